def xI (h : xe_H) : Prop := xE (xl h (6, 0)) (xl h (123, 0)) 0 600 ∧ xE (xl h (9, 0)) (xl h (124, 0)) 0 600
theorem xI_kept {h h' : xe_H} (I : xI h) (F : ∀ l : Nat × Nat, List.elem l [(6, 0), (123, 0), (9, 0), (124, 0)] = true → xl h' l = xl h l) : xI h' := ⟨(show xE (xl h' (6, 0)) (xl h' (123, 0)) 0 600 by rw [F (6, 0) rfl, F (123, 0) rfl]; exact I.1), (show xE (xl h' (9, 0)) (xl h' (124, 0)) 0 600 by rw [F (9, 0) rfl, F (124, 0) rfl]; exact I.2)⟩
set_option maxHeartbeats 8000000 in
theorem lc_d {J : xe_J} {ov : List (List Int32)} (hJ : ∀ d mj as h, mj ≠ xe_loff → J d mj as h = none) (hov1 : ov[1]? = some [10, 0, 0, 0, 0, 0]) (hov2 : ov[2]? = some [99, 30, 50, 50, 1, 99999]) {xs : List Int32} (hov0 : ov[0]? = some xs) {Q : Option Value → xe_H → Prop} {h : xe_H} {x4 : Int32} (hi0 : 0 ≤ x4.toInt) (hi1 : x4.toInt + 6 ≤ xs.length) (hi2 : x4.toInt ≤ 3066) (T : xt h) (kk : ∀ (i : Int32) (h' : xe_H), i.toInt = x4.toInt + 6 → xk [(6, 0), (123, 0), (9, 0), (124, 0)] h h' → xw J ov 100 195 (23, [(4, .int i), (3, .ref 167), (2, .ref 115), (1, .ref 0), (0, .ref 1000000)], [], h') Q) : xw J ov 100 195 (1501, [(4, .int x4), (3, .ref 167), (2, .ref 115), (1, .ref 0), (0, .ref 1000000)], [], h) Q := by
  have K : xk [(6, 0), (123, 0), (9, 0), (124, 0)] h h := xk_re T
  obtain ⟨v1, ev1⟩ : ∃ q : Int32, x4 + 6 = q := ⟨_, rfl⟩
  have zv1 : v1.toInt = (x4.toInt + 6) := by rw [← ev1]; exact (xz_add (X := x4.toInt) (Y := 6) rfl (by decide) (by omega) (by omega)).trans (by omega)
  refine xi_iinc (pc' := 1504) (x := x4) (v := v1) (lv' := [(4, .int v1), (3, .ref 167), (2, .ref 115), (1, .ref 0), (0, .ref 1000000)]) kc_195_1501 rfl rfl ev1 rfl (xm_lt ml_195 rfl) ?_
  refine xi_goto (pc' := 23) kc_195_1504 rfl ?_
  exact kk v1 h (by omega) K
set_option maxHeartbeats 8000000 in
theorem lc_0 {J : xe_J} {ov : List (List Int32)} (hJ : ∀ d mj as h, mj ≠ xe_loff → J d mj as h = none) (hov1 : ov[1]? = some [10, 0, 0, 0, 0, 0]) (hov2 : ov[2]? = some [99, 30, 50, 50, 1, 99999]) {xs : List Int32} (hov0 : ov[0]? = some xs) {Q : Option Value → xe_H → Prop} {h : xe_H} {x4 : Int32} (hi0 : 0 ≤ x4.toInt) (hi1 : x4.toInt + 6 ≤ xs.length) (hi2 : x4.toInt ≤ 3066) (T : xt h) (kk : ∀ (i : Int32) (h' : xe_H), i.toInt = x4.toInt + 6 → xk [(6, 0), (123, 0), (9, 0), (124, 0)] h h' → xw J ov 100 195 (23, [(4, .int i), (3, .ref 167), (2, .ref 115), (1, .ref 0), (0, .ref 1000000)], [], h') Q) : xw J ov 100 195 (192, [(4, .int x4), (3, .ref 167), (2, .ref 115), (1, .ref 0), (0, .ref 1000000)], [], h) Q := by
  have K : xk [(6, 0), (123, 0), (9, 0), (124, 0)] h h := xk_re T
  refine xi_aload_n (pc' := 193) (x := 0) kc_195_192 rfl rfl ?_
  refine xi_aload_n (pc' := 194) (x := 1000000) kc_195_193 rfl rfl ?_
  refine xi_iload (pc' := 196) (x := x4) kc_195_194 rfl rfl ?_
  refine xi_iconst (pc' := 197) (v := 1) kc_195_196 rfl rfl ?_
  obtain ⟨v1, ev1⟩ : ∃ q : Int32, x4 + 1 = q := ⟨_, rfl⟩
  have zv1 : v1.toInt = (x4.toInt + 1) := by rw [← ev1]; exact (xz_add (X := x4.toInt) (Y := 1) rfl (by decide) (by omega) (by omega)).trans (by omega)
  refine xi_iadd (pc' := 198) (v := v1) kc_195_197 rfl ev1 ?_
  obtain ⟨a2, ea2⟩ : ∃ q : Int32, xs.getD (Int32.toNatClampNeg v1) 0 = q := ⟨_, rfl⟩
  have ra2 := xc_rng a2
  refine xi_ialoadO (pc' := 199) (v := a2) kc_195_198 rfl (by decide) hov0 (xi_in (by omega) (by omega)) ea2 ?_
  refine xi_aload_n (pc' := 200) (x := 1000000) kc_195_199 rfl rfl ?_
  refine xi_iload (pc' := 202) (x := x4) kc_195_200 rfl rfl ?_
  refine xi_iconst (pc' := 203) (v := 2) kc_195_202 rfl rfl ?_
  obtain ⟨v3, ev3⟩ : ∃ q : Int32, x4 + 2 = q := ⟨_, rfl⟩
  have zv3 : v3.toInt = (x4.toInt + 2) := by rw [← ev3]; exact (xz_add (X := x4.toInt) (Y := 2) rfl (by decide) (by omega) (by omega)).trans (by omega)
  refine xi_iadd (pc' := 204) (v := v3) kc_195_203 rfl ev3 ?_
  obtain ⟨a4, ea4⟩ : ∃ q : Int32, xs.getD (Int32.toNatClampNeg v3) 0 = q := ⟨_, rfl⟩
  have ra4 := xc_rng a4
  refine xi_ialoadO (pc' := 205) (v := a4) kc_195_204 rfl (by decide) hov0 (xi_in (by omega) (by omega)) ea4 ?_
  refine xi_aload_n (pc' := 206) (x := 1000000) kc_195_205 rfl rfl ?_
  refine xi_iload (pc' := 208) (x := x4) kc_195_206 rfl rfl ?_
  refine xi_iconst (pc' := 209) (v := 3) kc_195_208 rfl rfl ?_
  obtain ⟨v5, ev5⟩ : ∃ q : Int32, x4 + 3 = q := ⟨_, rfl⟩
  have zv5 : v5.toInt = (x4.toInt + 3) := by rw [← ev5]; exact (xz_add (X := x4.toInt) (Y := 3) rfl (by decide) (by omega) (by omega)).trans (by omega)
  refine xi_iadd (pc' := 210) (v := v5) kc_195_209 rfl ev5 ?_
  obtain ⟨a6, ea6⟩ : ∃ q : Int32, xs.getD (Int32.toNatClampNeg v5) 0 = q := ⟨_, rfl⟩
  have ra6 := xc_rng a6
  refine xi_ialoadO (pc' := 211) (v := a6) kc_195_210 rfl (by decide) hov0 (xi_in (by omega) (by omega)) ea6 ?_
  obtain ⟨u7, u8, bu7, bu8, A9⟩ := xq_0 K.1
  refine xi_virtual (mj := 88) (as := [.int a2, .int a4, .int a6]) (st1 := []) (lv0 := [(0, .ref 0), (1, .int a2), (2, .int a4), (3, .int a6)]) kc_195_211 rfl rfl rfl rfl rfl A9 (Nat.le_of_ble_eq_true rfl) (hJ _ _ _ _ (by decide)) (xm_le ml_88 rfl) rfl ?_
  refine mt_88_0 hJ hov1 hov2 (d := 97) (x1 := a2) (x2 := a4) (x3 := a6) K.1 (fun r10 hh11 K12 => ?_)
  have br10 := xc_rng r10
  have K13 := xk_tr K K12 rfl
  obtain ⟨u14, u15, bu14, bu15, A16⟩ := xq_0 K13.1
  have e17 : u8 = u15 := xk_eqi (q := 9) K12 rfl A9 A16 rfl rfl
  subst e17
  show xw J ov 100 195 (214, [(4, .int x4), (3, .ref 167), (2, .ref 115), (1, .ref 0), (0, .ref 1000000)], [.int r10], hh11) _
  refine xi_pop (pc' := 215) kc_195_214 rfl rfl ?_
  refine xi_aload_n (pc' := 216) (x := 115) kc_195_215 rfl rfl ?_
  refine xi_aload_n (pc' := 217) (x := 1000000) kc_195_216 rfl rfl ?_
  refine xi_iload (pc' := 219) (x := x4) kc_195_217 rfl rfl ?_
  refine xi_iconst (pc' := 220) (v := 1) kc_195_219 rfl rfl ?_
  refine xi_iadd (pc' := 221) (v := v1) kc_195_220 rfl ev1 ?_
  refine xi_ialoadO (pc' := 222) (v := a2) kc_195_221 rfl (by decide) hov0 (xi_in (by omega) (by omega)) ea2 ?_
  refine xi_aload_n (pc' := 223) (x := 1000000) kc_195_222 rfl rfl ?_
  refine xi_iload (pc' := 225) (x := x4) kc_195_223 rfl rfl ?_
  refine xi_iconst (pc' := 226) (v := 2) kc_195_225 rfl rfl ?_
  refine xi_iadd (pc' := 227) (v := v3) kc_195_226 rfl ev3 ?_
  refine xi_ialoadO (pc' := 228) (v := a4) kc_195_227 rfl (by decide) hov0 (xi_in (by omega) (by omega)) ea4 ?_
  refine xi_aload_n (pc' := 229) (x := 1000000) kc_195_228 rfl rfl ?_
  refine xi_iload (pc' := 231) (x := x4) kc_195_229 rfl rfl ?_
  refine xi_iconst (pc' := 232) (v := 3) kc_195_231 rfl rfl ?_
  refine xi_iadd (pc' := 233) (v := v5) kc_195_232 rfl ev5 ?_
  refine xi_ialoadO (pc' := 234) (v := a6) kc_195_233 rfl (by decide) hov0 (xi_in (by omega) (by omega)) ea6 ?_
  obtain ⟨u18, u19, u20, u21, u22, u23, u24, u25, u26, u27, u28, u29, u30, bu18, bu19, bu20, bu21, bu22, bu23, bu24, bu25, bu26, bu27, bu28, bu29, bu30, A31⟩ := xq_115 K13.1
  refine xi_virtual (mj := 9) (as := [.int a2, .int a4, .int a6]) (st1 := []) (lv0 := [(0, .ref 115), (1, .int a2), (2, .int a4), (3, .int a6)]) kc_195_234 rfl rfl rfl rfl rfl A31 (Nat.le_of_ble_eq_true rfl) (hJ _ _ _ _ (by decide)) (xm_le ml_9 rfl) rfl ?_
  refine mt_9_0 hJ hov1 hov2 (d := 97) (x1 := a2) (x2 := a4) (x3 := a6) K13.1 (fun r32 hh33 K34 => ?_)
  have br32 := xc_rng r32
  have K35 := xk_tr K13 K34 rfl
  obtain ⟨u36, u37, bu36, bu37, A38⟩ := xq_0 K35.1
  have e39 : u8 = u37 := xk_eqi (q := 9) K34 rfl A16 A38 rfl rfl
  subst e39
  obtain ⟨u40, u41, u42, u43, u44, u45, u46, u47, u48, u49, u50, u51, u52, bu40, bu41, bu42, bu43, bu44, bu45, bu46, bu47, bu48, bu49, bu50, bu51, bu52, A53⟩ := xq_115 K35.1
  have e54 : u19 = u41 := xk_eqi (q := 1) K34 rfl A31 A53 rfl rfl
  subst e54
  show xw J ov 100 195 (237, [(4, .int x4), (3, .ref 167), (2, .ref 115), (1, .ref 0), (0, .ref 1000000)], [.int r32], hh33) _
  refine xi_pop (pc' := 238) kc_195_237 rfl rfl ?_
  refine xi_goto (pc' := 1501) kc_195_238 rfl ?_
  obtain ⟨v55, ev55⟩ : ∃ q : Int32, x4 + 6 = q := ⟨_, rfl⟩
  have zv55 : v55.toInt = (x4.toInt + 6) := by rw [← ev55]; exact (xz_add (X := x4.toInt) (Y := 6) rfl (by decide) (by omega) (by omega)).trans (by omega)
  refine xi_iinc (pc' := 1504) (x := x4) (v := v55) (lv' := [(4, .int v55), (3, .ref 167), (2, .ref 115), (1, .ref 0), (0, .ref 1000000)]) kc_195_1501 rfl rfl ev55 rfl (xm_lt ml_195 rfl) ?_
  refine xi_goto (pc' := 23) kc_195_1504 rfl ?_
  exact kk v55 hh33 (by omega) K35
set_option maxHeartbeats 8000000 in
theorem lc_1 {J : xe_J} {ov : List (List Int32)} (hJ : ∀ d mj as h, mj ≠ xe_loff → J d mj as h = none) (hov1 : ov[1]? = some [10, 0, 0, 0, 0, 0]) (hov2 : ov[2]? = some [99, 30, 50, 50, 1, 99999]) {xs : List Int32} (hov0 : ov[0]? = some xs) {Q : Option Value → xe_H → Prop} {h : xe_H} {x4 : Int32} (hi0 : 0 ≤ x4.toInt) (hi1 : x4.toInt + 6 ≤ xs.length) (hi2 : x4.toInt ≤ 3066) (T : xt h) (kk : ∀ (i : Int32) (h' : xe_H), i.toInt = x4.toInt + 6 → xk [(6, 0), (123, 0), (9, 0), (124, 0)] h h' → xw J ov 100 195 (23, [(4, .int i), (3, .ref 167), (2, .ref 115), (1, .ref 0), (0, .ref 1000000)], [], h') Q) : xw J ov 100 195 (241, [(4, .int x4), (3, .ref 167), (2, .ref 115), (1, .ref 0), (0, .ref 1000000)], [], h) Q := by
  have K : xk [(6, 0), (123, 0), (9, 0), (124, 0)] h h := xk_re T
  refine xi_aload_n (pc' := 242) (x := 0) kc_195_241 rfl rfl ?_
  refine xi_aload_n (pc' := 243) (x := 1000000) kc_195_242 rfl rfl ?_
  refine xi_iload (pc' := 245) (x := x4) kc_195_243 rfl rfl ?_
  refine xi_iconst (pc' := 246) (v := 1) kc_195_245 rfl rfl ?_
  obtain ⟨v1, ev1⟩ : ∃ q : Int32, x4 + 1 = q := ⟨_, rfl⟩
  have zv1 : v1.toInt = (x4.toInt + 1) := by rw [← ev1]; exact (xz_add (X := x4.toInt) (Y := 1) rfl (by decide) (by omega) (by omega)).trans (by omega)
  refine xi_iadd (pc' := 247) (v := v1) kc_195_246 rfl ev1 ?_
  obtain ⟨a2, ea2⟩ : ∃ q : Int32, xs.getD (Int32.toNatClampNeg v1) 0 = q := ⟨_, rfl⟩
  have ra2 := xc_rng a2
  refine xi_ialoadO (pc' := 248) (v := a2) kc_195_247 rfl (by decide) hov0 (xi_in (by omega) (by omega)) ea2 ?_
  refine xi_aload_n (pc' := 249) (x := 1000000) kc_195_248 rfl rfl ?_
  refine xi_iload (pc' := 251) (x := x4) kc_195_249 rfl rfl ?_
  refine xi_iconst (pc' := 252) (v := 2) kc_195_251 rfl rfl ?_
  obtain ⟨v3, ev3⟩ : ∃ q : Int32, x4 + 2 = q := ⟨_, rfl⟩
  have zv3 : v3.toInt = (x4.toInt + 2) := by rw [← ev3]; exact (xz_add (X := x4.toInt) (Y := 2) rfl (by decide) (by omega) (by omega)).trans (by omega)
  refine xi_iadd (pc' := 253) (v := v3) kc_195_252 rfl ev3 ?_
  obtain ⟨a4, ea4⟩ : ∃ q : Int32, xs.getD (Int32.toNatClampNeg v3) 0 = q := ⟨_, rfl⟩
  have ra4 := xc_rng a4
  refine xi_ialoadO (pc' := 254) (v := a4) kc_195_253 rfl (by decide) hov0 (xi_in (by omega) (by omega)) ea4 ?_
  refine xi_aload_n (pc' := 255) (x := 1000000) kc_195_254 rfl rfl ?_
  refine xi_iload (pc' := 257) (x := x4) kc_195_255 rfl rfl ?_
  refine xi_iconst (pc' := 258) (v := 3) kc_195_257 rfl rfl ?_
  obtain ⟨v5, ev5⟩ : ∃ q : Int32, x4 + 3 = q := ⟨_, rfl⟩
  have zv5 : v5.toInt = (x4.toInt + 3) := by rw [← ev5]; exact (xz_add (X := x4.toInt) (Y := 3) rfl (by decide) (by omega) (by omega)).trans (by omega)
  refine xi_iadd (pc' := 259) (v := v5) kc_195_258 rfl ev5 ?_
  obtain ⟨a6, ea6⟩ : ∃ q : Int32, xs.getD (Int32.toNatClampNeg v5) 0 = q := ⟨_, rfl⟩
  have ra6 := xc_rng a6
  refine xi_ialoadO (pc' := 260) (v := a6) kc_195_259 rfl (by decide) hov0 (xi_in (by omega) (by omega)) ea6 ?_
  obtain ⟨u7, u8, bu7, bu8, A9⟩ := xq_0 K.1
  refine xi_virtual (mj := 94) (as := [.int a2, .int a4, .int a6]) (st1 := []) (lv0 := [(0, .ref 0), (1, .int a2), (2, .int a4), (3, .int a6)]) kc_195_260 rfl rfl rfl rfl rfl A9 (Nat.le_of_ble_eq_true rfl) (hJ _ _ _ _ (by decide)) (xm_le ml_94 rfl) rfl ?_
  refine mt_94_0 hJ hov1 hov2 (d := 98) (x1 := a2) (x2 := a4) (x3 := a6) K.1 (fun r10 hh11 K12 => ?_)
  have br10 := xc_rng r10
  have K13 := xk_tr K K12 rfl
  obtain ⟨u14, u15, bu14, bu15, A16⟩ := xq_0 K13.1
  have e17 : u8 = u15 := xk_eqi (q := 9) K12 rfl A9 A16 rfl rfl
  subst e17
  show xw J ov 100 195 (263, [(4, .int x4), (3, .ref 167), (2, .ref 115), (1, .ref 0), (0, .ref 1000000)], [.int r10], hh11) _
  refine xi_pop (pc' := 264) kc_195_263 rfl rfl ?_
  refine xi_aload_n (pc' := 265) (x := 115) kc_195_264 rfl rfl ?_
  refine xi_aload_n (pc' := 266) (x := 1000000) kc_195_265 rfl rfl ?_
  refine xi_iload (pc' := 268) (x := x4) kc_195_266 rfl rfl ?_
  refine xi_iconst (pc' := 269) (v := 1) kc_195_268 rfl rfl ?_
  refine xi_iadd (pc' := 270) (v := v1) kc_195_269 rfl ev1 ?_
  refine xi_ialoadO (pc' := 271) (v := a2) kc_195_270 rfl (by decide) hov0 (xi_in (by omega) (by omega)) ea2 ?_
  refine xi_aload_n (pc' := 272) (x := 1000000) kc_195_271 rfl rfl ?_
  refine xi_iload (pc' := 274) (x := x4) kc_195_272 rfl rfl ?_
  refine xi_iconst (pc' := 275) (v := 2) kc_195_274 rfl rfl ?_
  refine xi_iadd (pc' := 276) (v := v3) kc_195_275 rfl ev3 ?_
  refine xi_ialoadO (pc' := 277) (v := a4) kc_195_276 rfl (by decide) hov0 (xi_in (by omega) (by omega)) ea4 ?_
  refine xi_aload_n (pc' := 278) (x := 1000000) kc_195_277 rfl rfl ?_
  refine xi_iload (pc' := 280) (x := x4) kc_195_278 rfl rfl ?_
  refine xi_iconst (pc' := 281) (v := 3) kc_195_280 rfl rfl ?_
  refine xi_iadd (pc' := 282) (v := v5) kc_195_281 rfl ev5 ?_
  refine xi_ialoadO (pc' := 283) (v := a6) kc_195_282 rfl (by decide) hov0 (xi_in (by omega) (by omega)) ea6 ?_
  obtain ⟨u18, u19, u20, u21, u22, u23, u24, u25, u26, u27, u28, u29, u30, bu18, bu19, bu20, bu21, bu22, bu23, bu24, bu25, bu26, bu27, bu28, bu29, bu30, A31⟩ := xq_115 K13.1
  refine xi_virtual (mj := 15) (as := [.int a2, .int a4, .int a6]) (st1 := []) (lv0 := [(0, .ref 115), (1, .int a2), (2, .int a4), (3, .int a6)]) kc_195_283 rfl rfl rfl rfl rfl A31 (Nat.le_of_ble_eq_true rfl) (hJ _ _ _ _ (by decide)) (xm_le ml_15 rfl) rfl ?_
  refine mt_15_0 hJ hov1 hov2 (d := 97) (x1 := a2) (x2 := a4) (x3 := a6) K13.1 (fun r32 hh33 K34 => ?_)
  have br32 := xc_rng r32
  have K35 := xk_tr K13 K34 rfl
  obtain ⟨u36, u37, bu36, bu37, A38⟩ := xq_0 K35.1
  have e39 : u8 = u37 := xk_eqi (q := 9) K34 rfl A16 A38 rfl rfl
  subst e39
  obtain ⟨u40, u41, u42, u43, u44, u45, u46, u47, u48, u49, u50, u51, u52, bu40, bu41, bu42, bu43, bu44, bu45, bu46, bu47, bu48, bu49, bu50, bu51, bu52, A53⟩ := xq_115 K35.1
  have e54 : u19 = u41 := xk_eqi (q := 1) K34 rfl A31 A53 rfl rfl
  subst e54
  show xw J ov 100 195 (286, [(4, .int x4), (3, .ref 167), (2, .ref 115), (1, .ref 0), (0, .ref 1000000)], [.int r32], hh33) _
  refine xi_pop (pc' := 287) kc_195_286 rfl rfl ?_
  refine xi_goto (pc' := 1501) kc_195_287 rfl ?_
  obtain ⟨v55, ev55⟩ : ∃ q : Int32, x4 + 6 = q := ⟨_, rfl⟩
  have zv55 : v55.toInt = (x4.toInt + 6) := by rw [← ev55]; exact (xz_add (X := x4.toInt) (Y := 6) rfl (by decide) (by omega) (by omega)).trans (by omega)
  refine xi_iinc (pc' := 1504) (x := x4) (v := v55) (lv' := [(4, .int v55), (3, .ref 167), (2, .ref 115), (1, .ref 0), (0, .ref 1000000)]) kc_195_1501 rfl rfl ev55 rfl (xm_lt ml_195 rfl) ?_
  refine xi_goto (pc' := 23) kc_195_1504 rfl ?_
  exact kk v55 hh33 (by omega) K35
set_option maxHeartbeats 8000000 in
theorem lc_2 {J : xe_J} {ov : List (List Int32)} (hJ : ∀ d mj as h, mj ≠ xe_loff → J d mj as h = none) (hov1 : ov[1]? = some [10, 0, 0, 0, 0, 0]) (hov2 : ov[2]? = some [99, 30, 50, 50, 1, 99999]) {xs : List Int32} (hov0 : ov[0]? = some xs) {Q : Option Value → xe_H → Prop} {h : xe_H} {x4 : Int32} (hi0 : 0 ≤ x4.toInt) (hi1 : x4.toInt + 6 ≤ xs.length) (hi2 : x4.toInt ≤ 3066) (T : xt h) (I : xI h) (kk : ∀ (i : Int32) (h' : xe_H), i.toInt = x4.toInt + 6 → xk [] h h' → xI h' → xw J ov 100 195 (23, [(4, .int i), (3, .ref 167), (2, .ref 115), (1, .ref 0), (0, .ref 1000000)], [], h') Q) : xw J ov 100 195 (290, [(4, .int x4), (3, .ref 167), (2, .ref 115), (1, .ref 0), (0, .ref 1000000)], [], h) Q := by
  have K : xk [] h h := xk_re T
  obtain ⟨y1, A1, hy1, ry1⟩ := xk_arr K.1 xD_6
  obtain ⟨y2, A2, hy2, ry2⟩ := xk_arr K.1 xD_123
  have H0 := xE_of I.1 A1 A2
  obtain ⟨y3, A3, hy3, ry3⟩ := xk_arr K.1 xD_9
  obtain ⟨y4, A4, hy4, ry4⟩ := xk_arr K.1 xD_124
  have H1 := xE_of I.2 A3 A4
  refine xi_aload_n (pc' := 291) (x := 0) kc_195_290 rfl rfl ?_
  refine xi_aload_n (pc' := 292) (x := 1000000) kc_195_291 rfl rfl ?_
  refine xi_iload (pc' := 294) (x := x4) kc_195_292 rfl rfl ?_
  refine xi_iconst (pc' := 295) (v := 1) kc_195_294 rfl rfl ?_
  obtain ⟨v5, ev5⟩ : ∃ q : Int32, x4 + 1 = q := ⟨_, rfl⟩
  have zv5 : v5.toInt = (x4.toInt + 1) := by rw [← ev5]; exact (xz_add (X := x4.toInt) (Y := 1) rfl (by decide) (by omega) (by omega)).trans (by omega)
  refine xi_iadd (pc' := 296) (v := v5) kc_195_295 rfl ev5 ?_
  obtain ⟨a6, ea6⟩ : ∃ q : Int32, xs.getD (Int32.toNatClampNeg v5) 0 = q := ⟨_, rfl⟩
  have ra6 := xc_rng a6
  refine xi_ialoadO (pc' := 297) (v := a6) kc_195_296 rfl (by decide) hov0 (xi_in (by omega) (by omega)) ea6 ?_
  refine xi_aload_n (pc' := 298) (x := 1000000) kc_195_297 rfl rfl ?_
  refine xi_iload (pc' := 300) (x := x4) kc_195_298 rfl rfl ?_
  refine xi_iconst (pc' := 301) (v := 2) kc_195_300 rfl rfl ?_
  obtain ⟨v7, ev7⟩ : ∃ q : Int32, x4 + 2 = q := ⟨_, rfl⟩
  have zv7 : v7.toInt = (x4.toInt + 2) := by rw [← ev7]; exact (xz_add (X := x4.toInt) (Y := 2) rfl (by decide) (by omega) (by omega)).trans (by omega)
  refine xi_iadd (pc' := 302) (v := v7) kc_195_301 rfl ev7 ?_
  obtain ⟨a8, ea8⟩ : ∃ q : Int32, xs.getD (Int32.toNatClampNeg v7) 0 = q := ⟨_, rfl⟩
  have ra8 := xc_rng a8
  refine xi_ialoadO (pc' := 303) (v := a8) kc_195_302 rfl (by decide) hov0 (xi_in (by omega) (by omega)) ea8 ?_
  refine xi_aload_n (pc' := 304) (x := 1000000) kc_195_303 rfl rfl ?_
  refine xi_iload (pc' := 306) (x := x4) kc_195_304 rfl rfl ?_
  refine xi_iconst (pc' := 307) (v := 3) kc_195_306 rfl rfl ?_
  obtain ⟨v9, ev9⟩ : ∃ q : Int32, x4 + 3 = q := ⟨_, rfl⟩
  have zv9 : v9.toInt = (x4.toInt + 3) := by rw [← ev9]; exact (xz_add (X := x4.toInt) (Y := 3) rfl (by decide) (by omega) (by omega)).trans (by omega)
  refine xi_iadd (pc' := 308) (v := v9) kc_195_307 rfl ev9 ?_
  obtain ⟨a10, ea10⟩ : ∃ q : Int32, xs.getD (Int32.toNatClampNeg v9) 0 = q := ⟨_, rfl⟩
  have ra10 := xc_rng a10
  refine xi_ialoadO (pc' := 309) (v := a10) kc_195_308 rfl (by decide) hov0 (xi_in (by omega) (by omega)) ea10 ?_
  obtain ⟨u11, u12, bu11, bu12, A13⟩ := xq_0 K.1
  refine xi_virtual (mj := 95) (as := [.int a6, .int a8, .int a10]) (st1 := []) (lv0 := [(0, .ref 0), (1, .int a6), (2, .int a8), (3, .int a10)]) kc_195_309 rfl rfl rfl rfl rfl A13 (Nat.le_of_ble_eq_true rfl) (hJ _ _ _ _ (by decide)) (xm_le ml_95 rfl) rfl ?_
  refine xi_iload_n (pc' := 1) (x := a8) kc_95_0 rfl rfl ?_
  by_cases c14 : a8.toInt = 0
  · refine xi_ift (pc' := 16) kc_95_1 rfl (xc_eq_t (X := a8.toInt) (Y := 0) rfl (by decide) (by omega)) ?_
    refine xi_iload_n (pc' := 17) (x := a8) kc_95_16 rfl rfl ?_
    refine xi_iff (pc' := 20) kc_95_17 rfl (xc_ne_f (X := a8.toInt) (Y := 0) rfl (by decide) (by omega)) ?_
    refine xi_bipush (pc' := 22) (v := (-20)) kc_95_20 rfl rfl ?_
    refine xi_goto (pc' := 26) kc_95_22 rfl ?_
    refine xi_istore (pc' := 28) (lv' := [(4, .int (-20)), (0, .ref 0), (1, .int a6), (2, .int a8), (3, .int a10)]) kc_95_26 rfl rfl (xm_lt ml_95 rfl) ?_
    refine xi_iload_n (pc' := 29) (x := a8) kc_95_28 rfl rfl ?_
    refine xi_iff (pc' := 32) kc_95_29 rfl (xc_ne_f (X := a8.toInt) (Y := 0) rfl (by decide) (by omega)) ?_
    refine xi_bipush (pc' := 34) (v := 30) kc_95_32 rfl rfl ?_
    refine xi_goto (pc' := 39) kc_95_34 rfl ?_
    refine xi_istore (pc' := 41) (lv' := [(5, .int 30), (4, .int (-20)), (0, .ref 0), (1, .int a6), (2, .int a8), (3, .int a10)]) kc_95_39 rfl rfl (xm_lt ml_95 rfl) ?_
    refine xi_iload_n (pc' := 42) (x := a6) kc_95_41 rfl rfl ?_
    by_cases c15 : a6.toInt < 0
    · refine xi_ift (pc' := 51) kc_95_42 rfl (xc_lt_t (X := a6.toInt) (Y := 0) rfl (by decide) (by omega)) ?_
      refine xi_aload_n (pc' := 52) (x := 0) kc_95_51 rfl rfl ?_
      refine xi_bipush (pc' := 54) (v := (-4)) kc_95_52 rfl rfl ?_
      refine xi_virtual (mj := 96) (as := [.int (-4)]) (st1 := []) (lv0 := [(0, .ref 0), (1, .int (-4))]) kc_95_54 rfl rfl rfl rfl rfl A13 (Nat.le_of_ble_eq_true rfl) (hJ _ _ _ _ (by decide)) (xm_le ml_96 rfl) rfl ?_
      refine xi_ldc_w (pc' := 3) (v := 1000000000) kc_96_0 rfl rfl ?_
      refine xi_aload_n (pc' := 4) (x := 0) kc_96_3 rfl rfl ?_
      refine xi_iload_n (pc' := 5) (x := (-4)) kc_96_4 rfl rfl ?_
      refine xi_virtual (mj := 90) (as := [.int (-4)]) (st1 := [.int 1000000000]) (lv0 := [(0, .ref 0), (1, .int (-4))]) kc_96_5 rfl rfl rfl rfl rfl A13 (Nat.le_of_ble_eq_true rfl) (hJ _ _ _ _ (by decide)) (xm_le ml_90 rfl) rfl ?_
      refine xi_iload_n (pc' := 1) (x := (-4)) kc_90_0 rfl rfl ?_
      refine xi_ineg (pc' := 2) (v := 4) kc_90_1 rfl rfl ?_
      refine xi_istore_n (pc' := 3) (lv' := [(2, .int 4), (0, .ref 0), (1, .int (-4))]) kc_90_2 rfl rfl (xm_lt ml_90 rfl) ?_
      refine xi_iload_n (pc' := 4) (x := 4) kc_90_3 rfl rfl ?_
      refine xi_iff (pc' := 7) kc_90_4 rfl rfl ?_
      refine xi_iload_n (pc' := 8) (x := 4) kc_90_7 rfl rfl ?_
      refine xi_aload_n (pc' := 9) (x := 0) kc_90_8 rfl rfl ?_
      refine xi_getfield (pc' := 12) (v := .ref 94) kc_90_9 rfl rfl rfl A13 rfl ?_
      obtain ⟨y16, A16, hy16, ry16⟩ := xk_arr K.1 xD_94
      refine xi_arraylength (pc' := 13) (n := 7) (v := 7) kc_90_12 rfl (xl_lenI (by decide) (by decide) A16 hy16) rfl ?_
      refine xi_cmf (pc' := 16) kc_90_13 rfl rfl ?_
      refine xi_aload_n (pc' := 17) (x := 0) kc_90_16 rfl rfl ?_
      refine xi_getfield (pc' := 20) (v := .ref 94) kc_90_17 rfl rfl rfl A13 rfl ?_
      refine xi_iload_n (pc' := 21) (x := 4) kc_90_20 rfl rfl ?_
      refine xi_dup2 (pc' := 22) kc_90_21 rfl ⟨rfl, rfl⟩ ?_
      obtain ⟨v17, ev17, bv17, dv17⟩ := xj_get hy16 ry16 (i := 4) (by decide) (by decide)
      refine xi_iaload (pc' := 23) (v := v17) kc_90_22 rfl A16 (by decide) rfl (xi_in (by decide) (by rw [hy16]; decide)) ev17 ?_
      refine xi_iconst (pc' := 24) (v := 1) kc_90_23 rfl rfl ?_
      obtain ⟨v18, ev18⟩ : ∃ q : Int32, (v17 : Int32) + 1 = q := ⟨_, rfl⟩
      have rv18 := xc_rng v18
      refine xi_iadd (pc' := 25) (v := v18) kc_90_24 rfl ev18 ?_
      obtain ⟨y19, s19, hy19, ry19⟩ := xj_set (v := v18) hy16 ry16 4 (by first | omega | decide) (by first | omega | decide)
      refine xi_iastore (pc' := 26) (x' := y19) kc_90_25 rfl A16 rfl (xi_in (by decide) (by rw [hy16]; decide)) s19 (fun hh19 eh19 => ?_)
      have K20 := xk_pa K (xk_wa rfl) xD_94 hy19 ry19 eh19
      refine xi_iload_n (pc' := 27) (x := (-4)) kc_90_26 rfl rfl ?_
      refine xi_ireturn kc_90_27 mr_90 rfl ?_
      show xw J ov 98 96 (8, [(0, .ref 0), (1, .int (-4))], [.int (-4), .int 1000000000], hh19) _
      refine xi_isub (pc' := 9) (v := 1000000004) kc_96_8 rfl rfl ?_
      refine xi_ireturn kc_96_9 mr_96 rfl ?_
      show xw J ov 99 95 (57, [(5, .int 30), (4, .int (-20)), (0, .ref 0), (1, .int a6), (2, .int a8), (3, .int a10)], [.int 1000000004], hh19) _
      refine xi_ireturn kc_95_57 mr_95 rfl ?_
      show xw J ov 100 195 (312, [(4, .int x4), (3, .ref 167), (2, .ref 115), (1, .ref 0), (0, .ref 1000000)], [.int 1000000004], hh19) _
      refine xi_aload_n (pc' := 313) (x := 115) kc_195_312 rfl rfl ?_
      refine xi_aload_n (pc' := 314) (x := 1000000) kc_195_313 rfl rfl ?_
      refine xi_iload (pc' := 316) (x := x4) kc_195_314 rfl rfl ?_
      refine xi_iconst (pc' := 317) (v := 1) kc_195_316 rfl rfl ?_
      refine xi_iadd (pc' := 318) (v := v5) kc_195_317 rfl ev5 ?_
      refine xi_ialoadO (pc' := 319) (v := a6) kc_195_318 rfl (by decide) hov0 (xi_in (by omega) (by omega)) ea6 ?_
      refine xi_aload_n (pc' := 320) (x := 1000000) kc_195_319 rfl rfl ?_
      refine xi_iload (pc' := 322) (x := x4) kc_195_320 rfl rfl ?_
      refine xi_iconst (pc' := 323) (v := 2) kc_195_322 rfl rfl ?_
      refine xi_iadd (pc' := 324) (v := v7) kc_195_323 rfl ev7 ?_
      refine xi_ialoadO (pc' := 325) (v := a8) kc_195_324 rfl (by decide) hov0 (xi_in (by omega) (by omega)) ea8 ?_
      refine xi_aload_n (pc' := 326) (x := 1000000) kc_195_325 rfl rfl ?_
      refine xi_iload (pc' := 328) (x := x4) kc_195_326 rfl rfl ?_
      refine xi_iconst (pc' := 329) (v := 3) kc_195_328 rfl rfl ?_
      refine xi_iadd (pc' := 330) (v := v9) kc_195_329 rfl ev9 ?_
      refine xi_ialoadO (pc' := 331) (v := a10) kc_195_330 rfl (by decide) hov0 (xi_in (by omega) (by omega)) ea10 ?_
      obtain ⟨u21, u22, u23, u24, u25, u26, u27, u28, u29, u30, u31, u32, u33, bu21, bu22, bu23, bu24, bu25, bu26, bu27, bu28, bu29, bu30, bu31, bu32, bu33, A34⟩ := xq_115 K.1
      have A35 := ((eh19.2.1 115 (by decide)).trans A34)
      refine xi_virtual (mj := 16) (as := [.int a6, .int a8, .int a10]) (st1 := [.int 1000000004]) (lv0 := [(0, .ref 115), (1, .int a6), (2, .int a8), (3, .int a10)]) kc_195_331 rfl rfl rfl rfl rfl A35 (Nat.le_of_ble_eq_true rfl) (hJ _ _ _ _ (by decide)) (xm_le ml_16 rfl) rfl ?_
      refine xi_aload_n (pc' := 1) (x := 115) kc_16_0 rfl rfl ?_
      refine xi_iconst (pc' := 2) (v := 0) kc_16_1 rfl rfl ?_
      refine xi_putfield (pc' := 5) (fs' := [.int 0, .int u22, .ref 116, .ref 117, .ref 118, .ref 119, .ref 120, .ref 121, .ref 122, .ref 123, .ref 124, .ref 125, .ref 126, .ref 127, .ref 128, .ref 129, .int u23, .ref 130, .int u24, .ref 131, .ref 132, .ref 133, .ref 134, .int u25, .ref 135, .ref 136, .ref 137, .ref 138, .ref 139, .ref 140, .ref 141, .ref 142, .int u26, .int u27, .int u28, .ref 143, .ref 144, .ref 145, .ref 146, .ref 147, .ref 148, .int u29, .ref 149, .ref 150, .ref 151, .int u30, .ref 152, .ref 153, .ref 154, .ref 155, .ref 156, .ref 157, .ref 158, .ref 159, .int u31, .ref 160, .int u32, .ref 161, .ref 162, .ref 163, .ref 164, .int u33, .ref 165, .ref 166]) kc_16_2 rfl rfl rfl A35 rfl rfl rfl (Nat.le_of_ble_eq_true rfl) rfl (fun hh37 eh36 => ?_)
      have K38 := xk_pf (k := 0) (v := 0) K20 (xk_wf rfl) xD_115 A35 rfl (by first | omega | decide) (by first | omega | decide) eh36 rfl
      refine xi_iload_n (pc' := 6) (x := a8) kc_16_5 rfl rfl ?_
      refine xi_iconst (pc' := 7) (v := 0) kc_16_6 rfl rfl ?_
      refine xi_iconst (pc' := 8) (v := 1) kc_16_7 rfl rfl ?_
      refine xi_static (mj := 11) (as := [.int a8, .int 0, .int 1]) (st1 := []) (lv0 := [(0, .int a8), (1, .int 0), (2, .int 1)]) kc_16_8 rfl rfl (Nat.le_of_ble_eq_true rfl) rfl rfl (Nat.le_of_ble_eq_true rfl) (hJ _ _ _ _ (by decide)) (xm_le ml_11 rfl) rfl ?_
      refine xi_iload_n (pc' := 1) (x := a8) kc_11_0 rfl rfl ?_
      refine xi_iload_n (pc' := 2) (x := 0) kc_11_1 rfl rfl ?_
      refine xi_cmf (pc' := 5) kc_11_2 rfl (xc_lt_f (X := a8.toInt) (Y := 0) rfl (by decide) (by omega)) ?_
      refine xi_iload_n (pc' := 6) (x := a8) kc_11_5 rfl rfl ?_
      refine xi_iload_n (pc' := 7) (x := 1) kc_11_6 rfl rfl ?_
      refine xi_cmf (pc' := 10) kc_11_7 rfl (xc_gt_f (X := a8.toInt) (Y := 1) rfl (by decide) (by omega)) ?_
      refine xi_iconst (pc' := 11) (v := 1) kc_11_10 rfl rfl ?_
      refine xi_goto (pc' := 15) kc_11_11 rfl ?_
      refine xi_ireturn kc_11_15 mr_11 rfl ?_
      show xw J ov 99 16 (11, [(0, .ref 115), (1, .int a6), (2, .int a8), (3, .int a10)], [.int 1], hh37) _
      refine xi_ift (pc' := 21) kc_16_11 rfl rfl ?_
      refine xi_iload_n (pc' := 22) (x := a6) kc_16_21 rfl rfl ?_
      refine xi_ift (pc' := 39) kc_16_22 rfl (xc_lt_t (X := a6.toInt) (Y := 0) rfl (by decide) (by omega)) ?_
      refine xi_aload_n (pc' := 40) (x := 115) kc_16_39 rfl rfl ?_
      refine xi_bipush (pc' := 42) (v := (-4)) kc_16_40 rfl rfl ?_
      refine xi_virtual (mj := 17) (as := [.int (-4)]) (st1 := []) (lv0 := [(0, .ref 115), (1, .int (-4))]) kc_16_42 rfl rfl rfl rfl rfl eh36.1 (Nat.le_of_ble_eq_true rfl) (hJ _ _ _ _ (by decide)) (xm_le ml_17 rfl) rfl ?_
      refine xi_aload_n (pc' := 1) (x := 115) kc_17_0 rfl rfl ?_
      refine xi_getfield (pc' := 4) (v := .ref 140) kc_17_1 rfl rfl rfl eh36.1 rfl ?_
      refine xi_iload_n (pc' := 5) (x := (-4)) kc_17_4 rfl rfl ?_
      refine xi_ineg (pc' := 6) (v := 4) kc_17_5 rfl rfl ?_
      refine xi_dup2 (pc' := 7) kc_17_6 rfl ⟨rfl, rfl⟩ ?_
      obtain ⟨y39, A39, hy39, ry39⟩ := xk_arr K.1 xD_140
      obtain ⟨v40, ev40, bv40, dv40⟩ := xj_get hy39 ry39 (i := 4) (by decide) (by decide)
      have A41 := ((eh36.2.1 140 (by decide)).trans ((eh19.2.1 140 (by decide)).trans A39))
      refine xi_iaload (pc' := 8) (v := v40) kc_17_7 rfl A41 (by decide) rfl (xi_in (by decide) (by rw [hy39]; decide)) ev40 ?_
      refine xi_iconst (pc' := 9) (v := 1) kc_17_8 rfl rfl ?_
      obtain ⟨v42, ev42⟩ : ∃ q : Int32, (v40 : Int32) + 1 = q := ⟨_, rfl⟩
      have rv42 := xc_rng v42
      refine xi_iadd (pc' := 10) (v := v42) kc_17_9 rfl ev42 ?_
      obtain ⟨y43, s43, hy43, ry43⟩ := xj_set (v := v42) hy39 ry39 4 (by first | omega | decide) (by first | omega | decide)
      refine xi_iastore (pc' := 11) (x' := y43) kc_17_10 rfl A41 rfl (xi_in (by decide) (by rw [hy39]; decide)) s43 (fun hh43 eh43 => ?_)
      have K44 := xk_pa K38 (xk_wa rfl) xD_140 hy43 ry43 eh43
      refine xi_ldc (pc' := 13) (v := 1000000000) kc_17_11 rfl rfl ?_
      refine xi_iload_n (pc' := 14) (x := (-4)) kc_17_13 rfl rfl ?_
      refine xi_isub (pc' := 15) (v := 1000000004) kc_17_14 rfl rfl ?_
      refine xi_ireturn kc_17_15 mr_17 rfl ?_
      show xw J ov 99 16 (45, [(0, .ref 115), (1, .int a6), (2, .int a8), (3, .int a10)], [.int 1000000004], hh43) _
      refine xi_ireturn kc_16_45 mr_16 rfl ?_
      show xw J ov 100 195 (334, [(4, .int x4), (3, .ref 167), (2, .ref 115), (1, .ref 0), (0, .ref 1000000)], [.int 1000000004, .int 1000000004], hh43) _
      refine xi_cmt (pc' := 1501) kc_195_334 rfl rfl ?_
      obtain ⟨v45, ev45⟩ : ∃ q : Int32, x4 + 6 = q := ⟨_, rfl⟩
      have zv45 : v45.toInt = (x4.toInt + 6) := by rw [← ev45]; exact (xz_add (X := x4.toInt) (Y := 6) rfl (by decide) (by omega) (by omega)).trans (by omega)
      refine xi_iinc (pc' := 1504) (x := x4) (v := v45) (lv' := [(4, .int v45), (3, .ref 167), (2, .ref 115), (1, .ref 0), (0, .ref 1000000)]) kc_195_1501 rfl rfl ev45 rfl (xm_lt ml_195 rfl) ?_
      refine xi_goto (pc' := 23) kc_195_1504 rfl ?_
      have A46 := ((eh43.2.1 6 (by decide)).trans ((eh36.2.1 6 (by decide)).trans ((eh19.2.1 6 (by decide)).trans A1)))
      have A47 := ((eh43.2.1 123 (by decide)).trans ((eh36.2.1 123 (by decide)).trans ((eh19.2.1 123 (by decide)).trans A2)))
      have A48 := ((eh43.2.1 9 (by decide)).trans ((eh36.2.1 9 (by decide)).trans ((eh19.2.1 9 (by decide)).trans A3)))
      have A49 := ((eh43.2.1 124 (by decide)).trans ((eh36.2.1 124 (by decide)).trans ((eh19.2.1 124 (by decide)).trans A4)))
      exact kk v45 hh43 (by omega) K44 ⟨(xE_mk A46 A47 H0), (xE_mk A48 A49 H1)⟩
    · refine xi_iff (pc' := 45) kc_95_42 rfl (xc_lt_f (X := a6.toInt) (Y := 0) rfl (by decide) (by omega)) ?_
      refine xi_iload_n (pc' := 46) (x := a10) kc_95_45 rfl rfl ?_
      refine xi_iload (pc' := 48) (x := (-20)) kc_95_46 rfl rfl ?_
      by_cases c50 : (-20) ≤ a10.toInt
      · refine xi_cmt (pc' := 58) kc_95_48 rfl (xc_ge_t (X := a10.toInt) (Y := (-20)) rfl (by decide) (by omega)) ?_
        refine xi_iload_n (pc' := 59) (x := a6) kc_95_58 rfl rfl ?_
        refine xi_sipush (pc' := 62) (v := 600) kc_95_59 rfl rfl ?_
        by_cases c51 : 600 ≤ a6.toInt
        · refine xi_cmt (pc' := 77) kc_95_62 rfl (xc_ge_t (X := a6.toInt) (Y := 600) rfl (by decide) (by omega)) ?_
          refine xi_aload_n (pc' := 78) (x := 0) kc_95_77 rfl rfl ?_
          refine xi_bipush (pc' := 80) (v := (-6)) kc_95_78 rfl rfl ?_
          refine xi_virtual (mj := 96) (as := [.int (-6)]) (st1 := []) (lv0 := [(0, .ref 0), (1, .int (-6))]) kc_95_80 rfl rfl rfl rfl rfl A13 (Nat.le_of_ble_eq_true rfl) (hJ _ _ _ _ (by decide)) (xm_le ml_96 rfl) rfl ?_
          refine xi_ldc_w (pc' := 3) (v := 1000000000) kc_96_0 rfl rfl ?_
          refine xi_aload_n (pc' := 4) (x := 0) kc_96_3 rfl rfl ?_
          refine xi_iload_n (pc' := 5) (x := (-6)) kc_96_4 rfl rfl ?_
          refine xi_virtual (mj := 90) (as := [.int (-6)]) (st1 := [.int 1000000000]) (lv0 := [(0, .ref 0), (1, .int (-6))]) kc_96_5 rfl rfl rfl rfl rfl A13 (Nat.le_of_ble_eq_true rfl) (hJ _ _ _ _ (by decide)) (xm_le ml_90 rfl) rfl ?_
          refine xi_iload_n (pc' := 1) (x := (-6)) kc_90_0 rfl rfl ?_
          refine xi_ineg (pc' := 2) (v := 6) kc_90_1 rfl rfl ?_
          refine xi_istore_n (pc' := 3) (lv' := [(2, .int 6), (0, .ref 0), (1, .int (-6))]) kc_90_2 rfl rfl (xm_lt ml_90 rfl) ?_
          refine xi_iload_n (pc' := 4) (x := 6) kc_90_3 rfl rfl ?_
          refine xi_iff (pc' := 7) kc_90_4 rfl rfl ?_
          refine xi_iload_n (pc' := 8) (x := 6) kc_90_7 rfl rfl ?_
          refine xi_aload_n (pc' := 9) (x := 0) kc_90_8 rfl rfl ?_
          refine xi_getfield (pc' := 12) (v := .ref 94) kc_90_9 rfl rfl rfl A13 rfl ?_
          obtain ⟨y52, A52, hy52, ry52⟩ := xk_arr K.1 xD_94
          refine xi_arraylength (pc' := 13) (n := 7) (v := 7) kc_90_12 rfl (xl_lenI (by decide) (by decide) A52 hy52) rfl ?_
          refine xi_cmf (pc' := 16) kc_90_13 rfl rfl ?_
          refine xi_aload_n (pc' := 17) (x := 0) kc_90_16 rfl rfl ?_
          refine xi_getfield (pc' := 20) (v := .ref 94) kc_90_17 rfl rfl rfl A13 rfl ?_
          refine xi_iload_n (pc' := 21) (x := 6) kc_90_20 rfl rfl ?_
          refine xi_dup2 (pc' := 22) kc_90_21 rfl ⟨rfl, rfl⟩ ?_
          obtain ⟨v53, ev53, bv53, dv53⟩ := xj_get hy52 ry52 (i := 6) (by decide) (by decide)
          refine xi_iaload (pc' := 23) (v := v53) kc_90_22 rfl A52 (by decide) rfl (xi_in (by decide) (by rw [hy52]; decide)) ev53 ?_
          refine xi_iconst (pc' := 24) (v := 1) kc_90_23 rfl rfl ?_
          obtain ⟨v54, ev54⟩ : ∃ q : Int32, (v53 : Int32) + 1 = q := ⟨_, rfl⟩
          have rv54 := xc_rng v54
          refine xi_iadd (pc' := 25) (v := v54) kc_90_24 rfl ev54 ?_
          obtain ⟨y55, s55, hy55, ry55⟩ := xj_set (v := v54) hy52 ry52 6 (by first | omega | decide) (by first | omega | decide)
          refine xi_iastore (pc' := 26) (x' := y55) kc_90_25 rfl A52 rfl (xi_in (by decide) (by rw [hy52]; decide)) s55 (fun hh55 eh55 => ?_)
          have K56 := xk_pa K (xk_wa rfl) xD_94 hy55 ry55 eh55
          refine xi_iload_n (pc' := 27) (x := (-6)) kc_90_26 rfl rfl ?_
          refine xi_ireturn kc_90_27 mr_90 rfl ?_
          show xw J ov 98 96 (8, [(0, .ref 0), (1, .int (-6))], [.int (-6), .int 1000000000], hh55) _
          refine xi_isub (pc' := 9) (v := 1000000006) kc_96_8 rfl rfl ?_
          refine xi_ireturn kc_96_9 mr_96 rfl ?_
          show xw J ov 99 95 (83, [(5, .int 30), (4, .int (-20)), (0, .ref 0), (1, .int a6), (2, .int a8), (3, .int a10)], [.int 1000000006], hh55) _
          refine xi_ireturn kc_95_83 mr_95 rfl ?_
          show xw J ov 100 195 (312, [(4, .int x4), (3, .ref 167), (2, .ref 115), (1, .ref 0), (0, .ref 1000000)], [.int 1000000006], hh55) _
          refine xi_aload_n (pc' := 313) (x := 115) kc_195_312 rfl rfl ?_
          refine xi_aload_n (pc' := 314) (x := 1000000) kc_195_313 rfl rfl ?_
          refine xi_iload (pc' := 316) (x := x4) kc_195_314 rfl rfl ?_
          refine xi_iconst (pc' := 317) (v := 1) kc_195_316 rfl rfl ?_
          refine xi_iadd (pc' := 318) (v := v5) kc_195_317 rfl ev5 ?_
          refine xi_ialoadO (pc' := 319) (v := a6) kc_195_318 rfl (by decide) hov0 (xi_in (by omega) (by omega)) ea6 ?_
          refine xi_aload_n (pc' := 320) (x := 1000000) kc_195_319 rfl rfl ?_
          refine xi_iload (pc' := 322) (x := x4) kc_195_320 rfl rfl ?_
          refine xi_iconst (pc' := 323) (v := 2) kc_195_322 rfl rfl ?_
          refine xi_iadd (pc' := 324) (v := v7) kc_195_323 rfl ev7 ?_
          refine xi_ialoadO (pc' := 325) (v := a8) kc_195_324 rfl (by decide) hov0 (xi_in (by omega) (by omega)) ea8 ?_
          refine xi_aload_n (pc' := 326) (x := 1000000) kc_195_325 rfl rfl ?_
          refine xi_iload (pc' := 328) (x := x4) kc_195_326 rfl rfl ?_
          refine xi_iconst (pc' := 329) (v := 3) kc_195_328 rfl rfl ?_
          refine xi_iadd (pc' := 330) (v := v9) kc_195_329 rfl ev9 ?_
          refine xi_ialoadO (pc' := 331) (v := a10) kc_195_330 rfl (by decide) hov0 (xi_in (by omega) (by omega)) ea10 ?_
          obtain ⟨u57, u58, u59, u60, u61, u62, u63, u64, u65, u66, u67, u68, u69, bu57, bu58, bu59, bu60, bu61, bu62, bu63, bu64, bu65, bu66, bu67, bu68, bu69, A70⟩ := xq_115 K.1
          have A71 := ((eh55.2.1 115 (by decide)).trans A70)
          refine xi_virtual (mj := 16) (as := [.int a6, .int a8, .int a10]) (st1 := [.int 1000000006]) (lv0 := [(0, .ref 115), (1, .int a6), (2, .int a8), (3, .int a10)]) kc_195_331 rfl rfl rfl rfl rfl A71 (Nat.le_of_ble_eq_true rfl) (hJ _ _ _ _ (by decide)) (xm_le ml_16 rfl) rfl ?_
          refine xi_aload_n (pc' := 1) (x := 115) kc_16_0 rfl rfl ?_
          refine xi_iconst (pc' := 2) (v := 0) kc_16_1 rfl rfl ?_
          refine xi_putfield (pc' := 5) (fs' := [.int 0, .int u58, .ref 116, .ref 117, .ref 118, .ref 119, .ref 120, .ref 121, .ref 122, .ref 123, .ref 124, .ref 125, .ref 126, .ref 127, .ref 128, .ref 129, .int u59, .ref 130, .int u60, .ref 131, .ref 132, .ref 133, .ref 134, .int u61, .ref 135, .ref 136, .ref 137, .ref 138, .ref 139, .ref 140, .ref 141, .ref 142, .int u62, .int u63, .int u64, .ref 143, .ref 144, .ref 145, .ref 146, .ref 147, .ref 148, .int u65, .ref 149, .ref 150, .ref 151, .int u66, .ref 152, .ref 153, .ref 154, .ref 155, .ref 156, .ref 157, .ref 158, .ref 159, .int u67, .ref 160, .int u68, .ref 161, .ref 162, .ref 163, .ref 164, .int u69, .ref 165, .ref 166]) kc_16_2 rfl rfl rfl A71 rfl rfl rfl (Nat.le_of_ble_eq_true rfl) rfl (fun hh73 eh72 => ?_)
          have K74 := xk_pf (k := 0) (v := 0) K56 (xk_wf rfl) xD_115 A71 rfl (by first | omega | decide) (by first | omega | decide) eh72 rfl
          refine xi_iload_n (pc' := 6) (x := a8) kc_16_5 rfl rfl ?_
          refine xi_iconst (pc' := 7) (v := 0) kc_16_6 rfl rfl ?_
          refine xi_iconst (pc' := 8) (v := 1) kc_16_7 rfl rfl ?_
          refine xi_static (mj := 11) (as := [.int a8, .int 0, .int 1]) (st1 := []) (lv0 := [(0, .int a8), (1, .int 0), (2, .int 1)]) kc_16_8 rfl rfl (Nat.le_of_ble_eq_true rfl) rfl rfl (Nat.le_of_ble_eq_true rfl) (hJ _ _ _ _ (by decide)) (xm_le ml_11 rfl) rfl ?_
          refine xi_iload_n (pc' := 1) (x := a8) kc_11_0 rfl rfl ?_
          refine xi_iload_n (pc' := 2) (x := 0) kc_11_1 rfl rfl ?_
          refine xi_cmf (pc' := 5) kc_11_2 rfl (xc_lt_f (X := a8.toInt) (Y := 0) rfl (by decide) (by omega)) ?_
          refine xi_iload_n (pc' := 6) (x := a8) kc_11_5 rfl rfl ?_
          refine xi_iload_n (pc' := 7) (x := 1) kc_11_6 rfl rfl ?_
          refine xi_cmf (pc' := 10) kc_11_7 rfl (xc_gt_f (X := a8.toInt) (Y := 1) rfl (by decide) (by omega)) ?_
          refine xi_iconst (pc' := 11) (v := 1) kc_11_10 rfl rfl ?_
          refine xi_goto (pc' := 15) kc_11_11 rfl ?_
          refine xi_ireturn kc_11_15 mr_11 rfl ?_
          show xw J ov 99 16 (11, [(0, .ref 115), (1, .int a6), (2, .int a8), (3, .int a10)], [.int 1], hh73) _
          refine xi_ift (pc' := 21) kc_16_11 rfl rfl ?_
          refine xi_iload_n (pc' := 22) (x := a6) kc_16_21 rfl rfl ?_
          refine xi_iff (pc' := 25) kc_16_22 rfl (xc_lt_f (X := a6.toInt) (Y := 0) rfl (by decide) (by omega)) ?_
          refine xi_iload_n (pc' := 26) (x := a10) kc_16_25 rfl rfl ?_
          refine xi_iload_n (pc' := 27) (x := a8) kc_16_26 rfl rfl ?_
          refine xi_iff (pc' := 30) kc_16_27 rfl (xc_ne_f (X := a8.toInt) (Y := 0) rfl (by decide) (by omega)) ?_
          refine xi_bipush (pc' := 32) (v := (-20)) kc_16_30 rfl rfl ?_
          refine xi_goto (pc' := 36) kc_16_32 rfl ?_
          refine xi_cmt (pc' := 46) kc_16_36 rfl (xc_ge_t (X := a10.toInt) (Y := (-20)) rfl (by decide) (by omega)) ?_
          refine xi_iload_n (pc' := 47) (x := a6) kc_16_46 rfl rfl ?_
          refine xi_sipush (pc' := 50) (v := 599) kc_16_47 rfl rfl ?_
          refine xi_cmt (pc' := 74) kc_16_50 rfl (xc_gt_t (X := a6.toInt) (Y := 599) rfl (by decide) (by omega)) ?_
          refine xi_aload_n (pc' := 75) (x := 115) kc_16_74 rfl rfl ?_
          refine xi_bipush (pc' := 77) (v := (-6)) kc_16_75 rfl rfl ?_
          refine xi_virtual (mj := 17) (as := [.int (-6)]) (st1 := []) (lv0 := [(0, .ref 115), (1, .int (-6))]) kc_16_77 rfl rfl rfl rfl rfl eh72.1 (Nat.le_of_ble_eq_true rfl) (hJ _ _ _ _ (by decide)) (xm_le ml_17 rfl) rfl ?_
          refine xi_aload_n (pc' := 1) (x := 115) kc_17_0 rfl rfl ?_
          refine xi_getfield (pc' := 4) (v := .ref 140) kc_17_1 rfl rfl rfl eh72.1 rfl ?_
          refine xi_iload_n (pc' := 5) (x := (-6)) kc_17_4 rfl rfl ?_
          refine xi_ineg (pc' := 6) (v := 6) kc_17_5 rfl rfl ?_
          refine xi_dup2 (pc' := 7) kc_17_6 rfl ⟨rfl, rfl⟩ ?_
          obtain ⟨y75, A75, hy75, ry75⟩ := xk_arr K.1 xD_140
          obtain ⟨v76, ev76, bv76, dv76⟩ := xj_get hy75 ry75 (i := 6) (by decide) (by decide)
          have A77 := ((eh72.2.1 140 (by decide)).trans ((eh55.2.1 140 (by decide)).trans A75))
          refine xi_iaload (pc' := 8) (v := v76) kc_17_7 rfl A77 (by decide) rfl (xi_in (by decide) (by rw [hy75]; decide)) ev76 ?_
          refine xi_iconst (pc' := 9) (v := 1) kc_17_8 rfl rfl ?_
          obtain ⟨v78, ev78⟩ : ∃ q : Int32, (v76 : Int32) + 1 = q := ⟨_, rfl⟩
          have rv78 := xc_rng v78
          refine xi_iadd (pc' := 10) (v := v78) kc_17_9 rfl ev78 ?_
          obtain ⟨y79, s79, hy79, ry79⟩ := xj_set (v := v78) hy75 ry75 6 (by first | omega | decide) (by first | omega | decide)
          refine xi_iastore (pc' := 11) (x' := y79) kc_17_10 rfl A77 rfl (xi_in (by decide) (by rw [hy75]; decide)) s79 (fun hh79 eh79 => ?_)
          have K80 := xk_pa K74 (xk_wa rfl) xD_140 hy79 ry79 eh79
          refine xi_ldc (pc' := 13) (v := 1000000000) kc_17_11 rfl rfl ?_
          refine xi_iload_n (pc' := 14) (x := (-6)) kc_17_13 rfl rfl ?_
          refine xi_isub (pc' := 15) (v := 1000000006) kc_17_14 rfl rfl ?_
          refine xi_ireturn kc_17_15 mr_17 rfl ?_
          show xw J ov 99 16 (80, [(0, .ref 115), (1, .int a6), (2, .int a8), (3, .int a10)], [.int 1000000006], hh79) _
          refine xi_ireturn kc_16_80 mr_16 rfl ?_
          show xw J ov 100 195 (334, [(4, .int x4), (3, .ref 167), (2, .ref 115), (1, .ref 0), (0, .ref 1000000)], [.int 1000000006, .int 1000000006], hh79) _
          refine xi_cmt (pc' := 1501) kc_195_334 rfl rfl ?_
          obtain ⟨v81, ev81⟩ : ∃ q : Int32, x4 + 6 = q := ⟨_, rfl⟩
          have zv81 : v81.toInt = (x4.toInt + 6) := by rw [← ev81]; exact (xz_add (X := x4.toInt) (Y := 6) rfl (by decide) (by omega) (by omega)).trans (by omega)
          refine xi_iinc (pc' := 1504) (x := x4) (v := v81) (lv' := [(4, .int v81), (3, .ref 167), (2, .ref 115), (1, .ref 0), (0, .ref 1000000)]) kc_195_1501 rfl rfl ev81 rfl (xm_lt ml_195 rfl) ?_
          refine xi_goto (pc' := 23) kc_195_1504 rfl ?_
          have A82 := ((eh79.2.1 6 (by decide)).trans ((eh72.2.1 6 (by decide)).trans ((eh55.2.1 6 (by decide)).trans A1)))
          have A83 := ((eh79.2.1 123 (by decide)).trans ((eh72.2.1 123 (by decide)).trans ((eh55.2.1 123 (by decide)).trans A2)))
          have A84 := ((eh79.2.1 9 (by decide)).trans ((eh72.2.1 9 (by decide)).trans ((eh55.2.1 9 (by decide)).trans A3)))
          have A85 := ((eh79.2.1 124 (by decide)).trans ((eh72.2.1 124 (by decide)).trans ((eh55.2.1 124 (by decide)).trans A4)))
          exact kk v81 hh79 (by omega) K80 ⟨(xE_mk A82 A83 H0), (xE_mk A84 A85 H1)⟩
        · refine xi_cmf (pc' := 65) kc_95_62 rfl (xc_ge_f (X := a6.toInt) (Y := 600) rfl (by decide) (by omega)) ?_
          refine xi_iload_n (pc' := 66) (x := a10) kc_95_65 rfl rfl ?_
          refine xi_iload (pc' := 68) (x := 30) kc_95_66 rfl rfl ?_
          by_cases c86 : a10.toInt ≤ 30
          · refine xi_cmt (pc' := 84) kc_95_68 rfl (xc_le_t (X := a10.toInt) (Y := 30) rfl (by decide) (by omega)) ?_
            refine xi_aload_n (pc' := 85) (x := 0) kc_95_84 rfl rfl ?_
            refine xi_getfield (pc' := 88) (v := .ref 66) kc_95_85 rfl rfl rfl A13 rfl ?_
            obtain ⟨u88, wl87, bu88, A89⟩ := xq_66 K.1
            refine xi_virtual (mj := 91) (as := []) (st1 := []) (lv0 := [(0, .ref 66)]) kc_95_88 rfl rfl rfl rfl rfl A89 (Nat.le_of_ble_eq_true rfl) (hJ _ _ _ _ (by decide)) (xm_le ml_91 rfl) rfl ?_
            refine xi_aload_n (pc' := 1) (x := 66) kc_91_0 rfl rfl ?_
            refine xi_lconst (pc' := 2) (v := 0) kc_91_1 rfl rfl ?_
            refine xi_putfield (pc' := 5) (fs' := [.ref 1, .ref 67, .ref 70, .ref 71, .ref 72, .ref 73, .ref 74, .long 0, .int u88]) kc_91_2 rfl rfl rfl A89 rfl rfl rfl (Nat.le_of_ble_eq_true rfl) rfl (fun hh91 eh90 => ?_)
            have K92 := xk_pl (k := 7) (v := 0) K (xk_wf rfl) xD_66 A89 rfl eh90 rfl
            refine xi_return kc_91_5 mr_91 ?_
            show xw J ov 99 95 (91, [(5, .int 30), (4, .int (-20)), (0, .ref 0), (1, .int a6), (2, .int a8), (3, .int a10)], [], hh91) _
            refine xi_aload_n (pc' := 92) (x := 0) kc_95_91 rfl rfl ?_
            have A93 := ((eh90.2.1 0 (by decide)).trans A13)
            refine xi_getfield (pc' := 95) (v := .ref 1) kc_95_92 rfl rfl rfl A93 rfl ?_
            refine xi_iload_n (pc' := 96) (x := a8) kc_95_95 rfl rfl ?_
            obtain ⟨u94, u95, bu94, bu95, A96⟩ := xq_1 K.1
            have A97 := ((eh90.2.1 1 (by decide)).trans A96)
            refine xi_virtual (mj := 97) (as := [.int a8]) (st1 := []) (lv0 := [(0, .ref 1), (1, .int a8)]) kc_95_96 rfl rfl rfl rfl rfl A97 (Nat.le_of_ble_eq_true rfl) (hJ _ _ _ _ (by decide)) (xm_le ml_97 rfl) rfl ?_
            refine xi_iload_n (pc' := 1) (x := a8) kc_97_0 rfl rfl ?_
            refine xi_iff (pc' := 4) kc_97_1 rfl (xc_ne_f (X := a8.toInt) (Y := 0) rfl (by decide) (by omega)) ?_
            refine xi_aload_n (pc' := 5) (x := 1) kc_97_4 rfl rfl ?_
            refine xi_getfield (pc' := 8) (v := .ref 5) kc_97_5 rfl rfl rfl A97 rfl ?_
            refine xi_goto (pc' := 15) kc_97_8 rfl ?_
            refine xi_areturn kc_97_15 (by rw [mr_97]; rfl) ?_
            show xw J ov 99 95 (99, [(5, .int 30), (4, .int (-20)), (0, .ref 0), (1, .int a6), (2, .int a8), (3, .int a10)], [.ref 5], hh91) _
            refine xi_iload_n (pc' := 100) (x := a6) kc_95_99 rfl rfl ?_
            refine xi_iload_n (pc' := 101) (x := a10) kc_95_100 rfl rfl ?_
            obtain ⟨u98, bu98, A99⟩ := xq_5 K.1
            have A100 := ((eh90.2.1 5 (by decide)).trans A99)
            refine xi_virtual (mj := 98) (as := [.int a6, .int a10]) (st1 := []) (lv0 := [(0, .ref 5), (1, .int a6), (2, .int a10)]) kc_95_101 rfl rfl rfl rfl rfl A100 (Nat.le_of_ble_eq_true rfl) (hJ _ _ _ _ (by decide)) (xm_le ml_98 rfl) rfl ?_
            refine xi_iload_n (pc' := 1) (x := a6) kc_98_0 rfl rfl ?_
            refine xi_iff (pc' := 4) kc_98_1 rfl (xc_lt_f (X := a6.toInt) (Y := 0) rfl (by decide) (by omega)) ?_
            refine xi_iload_n (pc' := 5) (x := a6) kc_98_4 rfl rfl ?_
            refine xi_aload_n (pc' := 6) (x := 5) kc_98_5 rfl rfl ?_
            refine xi_getfield (pc' := 9) (v := .ref 6) kc_98_6 rfl rfl rfl A100 rfl ?_
            have A101 := ((eh90.2.1 6 (by decide)).trans A1)
            refine xi_arraylength (pc' := 10) (n := 601) (v := 601) kc_98_9 rfl (xl_lenI (by decide) (by decide) A101 hy1) rfl ?_
            refine xi_cmt (pc' := 16) kc_98_10 rfl (xc_lt_t (X := a6.toInt) (Y := 601) rfl (by decide) (by omega)) ?_
            refine xi_aload_n (pc' := 17) (x := 5) kc_98_16 rfl rfl ?_
            refine xi_getfield (pc' := 20) (v := .ref 6) kc_98_17 rfl rfl rfl A100 rfl ?_
            refine xi_iload_n (pc' := 21) (x := a6) kc_98_20 rfl rfl ?_
            obtain ⟨v102, ev102, bv102, dv102⟩ := xj_get hy1 ry1 (i := a6) (by omega) (by omega)
            refine xi_iaload (pc' := 22) (v := v102) kc_98_21 rfl A101 (by decide) rfl (xi_in (by omega) (by rw [hy1]; omega)) ev102 ?_
            refine xi_istore_n (pc' := 23) (lv' := [(3, .int v102), (0, .ref 5), (1, .int a6), (2, .int a10)]) kc_98_22 rfl rfl (xm_lt ml_98 rfl) ?_
            refine xi_aload_n (pc' := 24) (x := 5) kc_98_23 rfl rfl ?_
            refine xi_getfield (pc' := 27) (v := .ref 6) kc_98_24 rfl rfl rfl A100 rfl ?_
            refine xi_iload_n (pc' := 28) (x := a6) kc_98_27 rfl rfl ?_
            refine xi_iload_n (pc' := 29) (x := a10) kc_98_28 rfl rfl ?_
            obtain ⟨y103, s103, hy103, ry103⟩ := xj_set (v := a10) hy1 ry1 a6 (by first | omega | decide) (by first | omega | decide)
            refine xi_iastore (pc' := 30) (x' := y103) kc_98_29 rfl A101 rfl (xi_in (by omega) (by rw [hy1]; omega)) s103 (fun hh103 eh103 => ?_)
            have K104 := xk_pa K92 (xk_wa rfl) xD_6 hy103 ry103 eh103
            refine xi_aload_n (pc' := 31) (x := 5) kc_98_30 rfl rfl ?_
            refine xi_iload_n (pc' := 32) (x := a6) kc_98_31 rfl rfl ?_
            refine xi_iconst (pc' := 33) (v := 1) kc_98_32 rfl rfl ?_
            obtain ⟨v105, ev105⟩ : ∃ q : Int32, a6 - 1 = q := ⟨_, rfl⟩
            have zv105 : v105.toInt = (a6.toInt + (-1)) := by rw [← ev105]; exact (xz_sub (X := a6.toInt) (Y := 1) rfl (by decide) (by omega) (by omega)).trans (by omega)
            refine xi_isub (pc' := 34) (v := v105) kc_98_33 rfl ev105 ?_
            have A106 := ((eh103.2.1 5 (by decide)).trans A100)
            refine xi_virtual (mj := 99) (as := [.int v105]) (st1 := []) (lv0 := [(0, .ref 5), (1, .int v105)]) kc_98_34 rfl rfl rfl rfl rfl A106 (Nat.le_of_ble_eq_true rfl) (hJ _ _ _ _ (by decide)) (xm_le ml_99 rfl) rfl ?_
            refine xi_iload_n (pc' := 1) (x := v105) kc_99_0 rfl rfl ?_
            by_cases c107 : (a6.toInt + (-1)) < 0
            · refine xi_ift (pc' := 13) kc_99_1 rfl (xc_lt_t (X := (a6.toInt + (-1))) (Y := 0) zv105 (by decide) (by omega)) ?_
              refine xi_aload_n (pc' := 14) (x := 5) kc_99_13 rfl rfl ?_
              refine xi_getfield (pc' := 17) (v := .int u98) kc_99_14 rfl rfl rfl A106 rfl ?_
              refine xi_goto (pc' := 26) kc_99_17 rfl ?_
              refine xi_ireturn kc_99_26 mr_99 rfl ?_
              show xw J ov 98 98 (37, [(3, .int v102), (0, .ref 5), (1, .int a6), (2, .int a10)], [.int u98], hh103) _
              refine xi_istore (pc' := 39) (lv' := [(4, .int u98), (3, .int v102), (0, .ref 5), (1, .int a6), (2, .int a10)]) kc_98_37 rfl rfl (xm_lt ml_98 rfl) ?_
              refine xi_iload_n (pc' := 40) (x := a6) kc_98_39 rfl rfl ?_
              refine xi_istore (pc' := 42) (lv' := [(5, .int a6), (4, .int u98), (3, .int v102), (0, .ref 5), (1, .int a6), (2, .int a10)]) kc_98_40 rfl rfl (xm_lt ml_98 rfl) ?_
              refine xw_lv (b := [(0, .ref 5), (3, .int v102), (4, .int u98), (5, .int a6)]) (lvS_cons (lvS_cons (lvS_cons (lvS_cons (lvS_nil (show ([5, 4, 3, 0, 1, 2] : List Nat).Nodup by decide)) rfl) rfl) rfl) rfl) ?_
              refine (lp_98_0 hJ hov1 hov2 (d := 97) (hb := hh103) (fun r108 hh109 K110 => ?_) 602) v102 u98 a6 hh103 (by first | omega | decide) (xk_re K104.1) (by omega)
              have br108 := xc_rng r108
              have A111 := ((eh103.2.1 123 (by decide)).trans ((eh90.2.1 123 (by decide)).trans A2))
              have A112 := ((eh103.2.1 9 (by decide)).trans ((eh90.2.1 9 (by decide)).trans A3))
              have A113 := ((eh103.2.1 124 (by decide)).trans ((eh90.2.1 124 (by decide)).trans A4))
              have A114 := ((eh103.2.1 0 (by decide)).trans A93)
              have K115 := xk_tr K104 K110 rfl
              have A116 := xk_eqa (q := 0) K110 rfl eh103.1
              have A117 := xk_eqa (q := 0) K110 rfl A111
              have A118 := xk_eqa (q := 0) K110 rfl A112
              have A119 := xk_eqa (q := 0) K110 rfl A113
              obtain ⟨u120, u121, bu120, bu121, A122⟩ := xq_0 K115.1
              have e123 : u12 = u121 := xk_eqi (q := 9) K110 rfl A114 A122 rfl rfl
              subst e123
              show xw J ov 99 95 (104, [(5, .int 30), (4, .int (-20)), (0, .ref 0), (1, .int a6), (2, .int a8), (3, .int a10)], [.int r108], hh109) _
              refine xi_ireturn kc_95_104 mr_95 rfl ?_
              show xw J ov 100 195 (312, [(4, .int x4), (3, .ref 167), (2, .ref 115), (1, .ref 0), (0, .ref 1000000)], [.int r108], hh109) _
              refine xi_aload_n (pc' := 313) (x := 115) kc_195_312 rfl rfl ?_
              refine xi_aload_n (pc' := 314) (x := 1000000) kc_195_313 rfl rfl ?_
              refine xi_iload (pc' := 316) (x := x4) kc_195_314 rfl rfl ?_
              refine xi_iconst (pc' := 317) (v := 1) kc_195_316 rfl rfl ?_
              refine xi_iadd (pc' := 318) (v := v5) kc_195_317 rfl ev5 ?_
              refine xi_ialoadO (pc' := 319) (v := a6) kc_195_318 rfl (by decide) hov0 (xi_in (by omega) (by omega)) ea6 ?_
              refine xi_aload_n (pc' := 320) (x := 1000000) kc_195_319 rfl rfl ?_
              refine xi_iload (pc' := 322) (x := x4) kc_195_320 rfl rfl ?_
              refine xi_iconst (pc' := 323) (v := 2) kc_195_322 rfl rfl ?_
              refine xi_iadd (pc' := 324) (v := v7) kc_195_323 rfl ev7 ?_
              refine xi_ialoadO (pc' := 325) (v := a8) kc_195_324 rfl (by decide) hov0 (xi_in (by omega) (by omega)) ea8 ?_
              refine xi_aload_n (pc' := 326) (x := 1000000) kc_195_325 rfl rfl ?_
              refine xi_iload (pc' := 328) (x := x4) kc_195_326 rfl rfl ?_
              refine xi_iconst (pc' := 329) (v := 3) kc_195_328 rfl rfl ?_
              refine xi_iadd (pc' := 330) (v := v9) kc_195_329 rfl ev9 ?_
              refine xi_ialoadO (pc' := 331) (v := a10) kc_195_330 rfl (by decide) hov0 (xi_in (by omega) (by omega)) ea10 ?_
              obtain ⟨u124, u125, u126, u127, u128, u129, u130, u131, u132, u133, u134, u135, u136, bu124, bu125, bu126, bu127, bu128, bu129, bu130, bu131, bu132, bu133, bu134, bu135, bu136, A137⟩ := xq_115 K115.1
              refine xi_virtual (mj := 16) (as := [.int a6, .int a8, .int a10]) (st1 := [.int r108]) (lv0 := [(0, .ref 115), (1, .int a6), (2, .int a8), (3, .int a10)]) kc_195_331 rfl rfl rfl rfl rfl A137 (Nat.le_of_ble_eq_true rfl) (hJ _ _ _ _ (by decide)) (xm_le ml_16 rfl) rfl ?_
              refine xi_aload_n (pc' := 1) (x := 115) kc_16_0 rfl rfl ?_
              refine xi_iconst (pc' := 2) (v := 0) kc_16_1 rfl rfl ?_
              refine xi_putfield (pc' := 5) (fs' := [.int 0, .int u125, .ref 116, .ref 117, .ref 118, .ref 119, .ref 120, .ref 121, .ref 122, .ref 123, .ref 124, .ref 125, .ref 126, .ref 127, .ref 128, .ref 129, .int u126, .ref 130, .int u127, .ref 131, .ref 132, .ref 133, .ref 134, .int u128, .ref 135, .ref 136, .ref 137, .ref 138, .ref 139, .ref 140, .ref 141, .ref 142, .int u129, .int u130, .int u131, .ref 143, .ref 144, .ref 145, .ref 146, .ref 147, .ref 148, .int u132, .ref 149, .ref 150, .ref 151, .int u133, .ref 152, .ref 153, .ref 154, .ref 155, .ref 156, .ref 157, .ref 158, .ref 159, .int u134, .ref 160, .int u135, .ref 161, .ref 162, .ref 163, .ref 164, .int u136, .ref 165, .ref 166]) kc_16_2 rfl rfl rfl A137 rfl rfl rfl (Nat.le_of_ble_eq_true rfl) rfl (fun hh139 eh138 => ?_)
              have K140 := xk_pf (k := 0) (v := 0) K115 (xk_wf rfl) xD_115 A137 rfl (by first | omega | decide) (by first | omega | decide) eh138 rfl
              refine xi_iload_n (pc' := 6) (x := a8) kc_16_5 rfl rfl ?_
              refine xi_iconst (pc' := 7) (v := 0) kc_16_6 rfl rfl ?_
              refine xi_iconst (pc' := 8) (v := 1) kc_16_7 rfl rfl ?_
              refine xi_static (mj := 11) (as := [.int a8, .int 0, .int 1]) (st1 := []) (lv0 := [(0, .int a8), (1, .int 0), (2, .int 1)]) kc_16_8 rfl rfl (Nat.le_of_ble_eq_true rfl) rfl rfl (Nat.le_of_ble_eq_true rfl) (hJ _ _ _ _ (by decide)) (xm_le ml_11 rfl) rfl ?_
              refine xi_iload_n (pc' := 1) (x := a8) kc_11_0 rfl rfl ?_
              refine xi_iload_n (pc' := 2) (x := 0) kc_11_1 rfl rfl ?_
              refine xi_cmf (pc' := 5) kc_11_2 rfl (xc_lt_f (X := a8.toInt) (Y := 0) rfl (by decide) (by omega)) ?_
              refine xi_iload_n (pc' := 6) (x := a8) kc_11_5 rfl rfl ?_
              refine xi_iload_n (pc' := 7) (x := 1) kc_11_6 rfl rfl ?_
              refine xi_cmf (pc' := 10) kc_11_7 rfl (xc_gt_f (X := a8.toInt) (Y := 1) rfl (by decide) (by omega)) ?_
              refine xi_iconst (pc' := 11) (v := 1) kc_11_10 rfl rfl ?_
              refine xi_goto (pc' := 15) kc_11_11 rfl ?_
              refine xi_ireturn kc_11_15 mr_11 rfl ?_
              show xw J ov 99 16 (11, [(0, .ref 115), (1, .int a6), (2, .int a8), (3, .int a10)], [.int 1], hh139) _
              refine xi_ift (pc' := 21) kc_16_11 rfl rfl ?_
              refine xi_iload_n (pc' := 22) (x := a6) kc_16_21 rfl rfl ?_
              refine xi_iff (pc' := 25) kc_16_22 rfl (xc_lt_f (X := a6.toInt) (Y := 0) rfl (by decide) (by omega)) ?_
              refine xi_iload_n (pc' := 26) (x := a10) kc_16_25 rfl rfl ?_
              refine xi_iload_n (pc' := 27) (x := a8) kc_16_26 rfl rfl ?_
              refine xi_iff (pc' := 30) kc_16_27 rfl (xc_ne_f (X := a8.toInt) (Y := 0) rfl (by decide) (by omega)) ?_
              refine xi_bipush (pc' := 32) (v := (-20)) kc_16_30 rfl rfl ?_
              refine xi_goto (pc' := 36) kc_16_32 rfl ?_
              refine xi_cmt (pc' := 46) kc_16_36 rfl (xc_ge_t (X := a10.toInt) (Y := (-20)) rfl (by decide) (by omega)) ?_
              refine xi_iload_n (pc' := 47) (x := a6) kc_16_46 rfl rfl ?_
              refine xi_sipush (pc' := 50) (v := 599) kc_16_47 rfl rfl ?_
              refine xi_cmf (pc' := 53) kc_16_50 rfl (xc_gt_f (X := a6.toInt) (Y := 599) rfl (by decide) (by omega)) ?_
              refine xi_iload_n (pc' := 54) (x := a10) kc_16_53 rfl rfl ?_
              refine xi_iload_n (pc' := 55) (x := a8) kc_16_54 rfl rfl ?_
              refine xi_iff (pc' := 58) kc_16_55 rfl (xc_ne_f (X := a8.toInt) (Y := 0) rfl (by decide) (by omega)) ?_
              refine xi_bipush (pc' := 60) (v := 30) kc_16_58 rfl rfl ?_
              refine xi_goto (pc' := 65) kc_16_60 rfl ?_
              refine xi_cmt (pc' := 81) kc_16_65 rfl (xc_le_t (X := a10.toInt) (Y := 30) rfl (by decide) (by omega)) ?_
              refine xi_iload_n (pc' := 82) (x := a8) kc_16_81 rfl rfl ?_
              refine xi_iff (pc' := 85) kc_16_82 rfl (xc_ne_f (X := a8.toInt) (Y := 0) rfl (by decide) (by omega)) ?_
              refine xi_aload_n (pc' := 86) (x := 115) kc_16_85 rfl rfl ?_
              refine xi_getfield (pc' := 89) (v := .ref 123) kc_16_86 rfl rfl rfl eh138.1 rfl ?_
              refine xi_iload_n (pc' := 90) (x := a6) kc_16_89 rfl rfl ?_
              have A141 := ((eh138.2.1 123 (by decide)).trans A117)
              refine xi_iaload (pc' := 91) (v := v102) kc_16_90 rfl A141 (by decide) rfl (xi_in (by omega) (by rw [hy2]; omega)) (xE_ld H0 (by first | omega | decide) (by first | omega | decide) (by omega) ev102) ?_
              refine xi_goto (pc' := 100) kc_16_91 rfl ?_
              refine xi_istore (pc' := 102) (lv' := [(4, .int v102), (0, .ref 115), (1, .int a6), (2, .int a8), (3, .int a10)]) kc_16_100 rfl rfl (xm_lt ml_16 rfl) ?_
              refine xi_aload_n (pc' := 103) (x := 115) kc_16_102 rfl rfl ?_
              refine xi_getfield (pc' := 106) (v := .ref 123) kc_16_103 rfl rfl rfl eh138.1 rfl ?_
              refine xi_iload_n (pc' := 107) (x := a6) kc_16_106 rfl rfl ?_
              refine xi_iload_n (pc' := 108) (x := a8) kc_16_107 rfl rfl ?_
              refine xi_iff (pc' := 111) kc_16_108 rfl (xc_ne_f (X := a8.toInt) (Y := 0) rfl (by decide) (by omega)) ?_
              refine xi_iload_n (pc' := 112) (x := a10) kc_16_111 rfl rfl ?_
              refine xi_goto (pc' := 121) kc_16_112 rfl ?_
              obtain ⟨y142, s142, hy142, ry142⟩ := xj_set (v := a10) hy2 ry2 a6 (by first | omega | decide) (by first | omega | decide)
              refine xi_iastore (pc' := 122) (x' := y142) kc_16_121 rfl A141 rfl (xi_in (by omega) (by rw [hy2]; omega)) s142 (fun hh142 eh142 => ?_)
              have K143 := xk_pa K140 (xk_wa rfl) xD_123 hy142 ry142 eh142
              refine xi_aload_n (pc' := 123) (x := 115) kc_16_122 rfl rfl ?_
              have A144 := ((eh142.2.1 115 (by decide)).trans eh138.1)
              refine xi_getfield (pc' := 126) (v := .ref 124) kc_16_123 rfl rfl rfl A144 rfl ?_
              refine xi_iload_n (pc' := 127) (x := a6) kc_16_126 rfl rfl ?_
              refine xi_iload_n (pc' := 128) (x := a8) kc_16_127 rfl rfl ?_
              refine xi_iconst (pc' := 129) (v := 1) kc_16_128 rfl rfl ?_
              refine xi_cmt (pc' := 136) kc_16_129 rfl (xc_ne_t (X := a8.toInt) (Y := 1) rfl (by decide) (by omega)) ?_
              refine xi_aload_n (pc' := 137) (x := 115) kc_16_136 rfl rfl ?_
              refine xi_getfield (pc' := 140) (v := .ref 124) kc_16_137 rfl rfl rfl A144 rfl ?_
              refine xi_iload_n (pc' := 141) (x := a6) kc_16_140 rfl rfl ?_
              obtain ⟨v145, ev145, bv145, dv145⟩ := xj_get hy4 ry4 (i := a6) (by omega) (by omega)
              have A146 := ((eh142.2.1 124 (by decide)).trans ((eh138.2.1 124 (by decide)).trans A119))
              refine xi_iaload (pc' := 142) (v := v145) kc_16_141 rfl A146 (by decide) rfl (xi_in (by omega) (by rw [hy4]; omega)) ev145 ?_
              obtain ⟨y147, s147, hy147, ry147⟩ := xj_set (v := v145) hy4 ry4 a6 (by first | omega | decide) (by first | omega | decide)
              refine xi_iastore (pc' := 143) (x' := y147) kc_16_142 rfl A146 rfl (xi_in (by omega) (by rw [hy4]; omega)) s147 (fun hh147 eh147 => ?_)
              have K148 := xk_pa K143 (xk_wa rfl) xD_124 hy147 ry147 eh147
              refine xi_aload_n (pc' := 144) (x := 115) kc_16_143 rfl rfl ?_
              refine xi_iconst (pc' := 145) (v := 0) kc_16_144 rfl rfl ?_
              have A149 := ((eh147.2.1 115 (by decide)).trans A144)
              refine xi_putfield (pc' := 148) (fs' := [.int 0, .int u125, .ref 116, .ref 117, .ref 118, .ref 119, .ref 120, .ref 121, .ref 122, .ref 123, .ref 124, .ref 125, .ref 126, .ref 127, .ref 128, .ref 129, .int u126, .ref 130, .int u127, .ref 131, .ref 132, .ref 133, .ref 134, .int u128, .ref 135, .ref 136, .ref 137, .ref 138, .ref 139, .ref 140, .ref 141, .ref 142, .int u129, .int u130, .int u131, .ref 143, .ref 144, .ref 145, .ref 146, .ref 147, .ref 148, .int 0, .ref 149, .ref 150, .ref 151, .int u133, .ref 152, .ref 153, .ref 154, .ref 155, .ref 156, .ref 157, .ref 158, .ref 159, .int u134, .ref 160, .int u135, .ref 161, .ref 162, .ref 163, .ref 164, .int u136, .ref 165, .ref 166]) kc_16_145 rfl rfl rfl A149 rfl rfl rfl (Nat.le_of_ble_eq_true rfl) rfl (fun hh151 eh150 => ?_)
              have K152 := xk_pf (k := 41) (v := 0) K148 (xk_wf rfl) xD_115 A149 rfl (by first | omega | decide) (by first | omega | decide) eh150 rfl
              refine xi_iload (pc' := 150) (x := v102) kc_16_148 rfl rfl ?_
              refine xi_ireturn kc_16_150 mr_16 rfl ?_
              show xw J ov 100 195 (334, [(4, .int x4), (3, .ref 167), (2, .ref 115), (1, .ref 0), (0, .ref 1000000)], [.int v102, .int r108], hh151) _
              by_cases c153 : r108.toInt = v102.toInt
              · refine xi_cmt (pc' := 1501) kc_195_334 rfl (xc_eq_t (X := r108.toInt) (Y := v102.toInt) rfl rfl (by omega)) ?_
                obtain ⟨v154, ev154⟩ : ∃ q : Int32, x4 + 6 = q := ⟨_, rfl⟩
                have zv154 : v154.toInt = (x4.toInt + 6) := by rw [← ev154]; exact (xz_add (X := x4.toInt) (Y := 6) rfl (by decide) (by omega) (by omega)).trans (by omega)
                refine xi_iinc (pc' := 1504) (x := x4) (v := v154) (lv' := [(4, .int v154), (3, .ref 167), (2, .ref 115), (1, .ref 0), (0, .ref 1000000)]) kc_195_1501 rfl rfl ev154 rfl (xm_lt ml_195 rfl) ?_
                refine xi_goto (pc' := 23) kc_195_1504 rfl ?_
                have A155 := ((eh150.2.1 6 (by decide)).trans ((eh147.2.1 6 (by decide)).trans ((eh142.2.1 6 (by decide)).trans ((eh138.2.1 6 (by decide)).trans A116))))
                have A156 := ((eh150.2.1 123 (by decide)).trans ((eh147.2.1 123 (by decide)).trans eh142.1))
                have A157 := ((eh150.2.1 9 (by decide)).trans ((eh147.2.1 9 (by decide)).trans ((eh142.2.1 9 (by decide)).trans ((eh138.2.1 9 (by decide)).trans A118))))
                have A158 := ((eh150.2.1 124 (by decide)).trans eh147.1)
                exact kk v154 hh151 (by omega) K152 ⟨(xE_mk A155 A156 (xE_set H0 (by first | omega | decide) (by omega) (by omega) (by omega) s103 s142)), (xE_mk A157 A158 (xE_id H1 ev145 s147))⟩
              · refine xi_cmf (pc' := 337) kc_195_334 rfl (xc_eq_f (X := r108.toInt) (Y := v102.toInt) rfl rfl (by omega)) ?_
                refine xi_iconst (pc' := 338) (v := 0) kc_195_337 rfl rfl ?_
                refine xi_ireturn kc_195_338 mr_195 rfl ?_
                exfalso; omega
            · refine xi_iff (pc' := 4) kc_99_1 rfl (xc_lt_f (X := (a6.toInt + (-1))) (Y := 0) zv105 (by decide) (by omega)) ?_
              refine xi_iload_n (pc' := 5) (x := v105) kc_99_4 rfl rfl ?_
              refine xi_aload_n (pc' := 6) (x := 5) kc_99_5 rfl rfl ?_
              refine xi_getfield (pc' := 9) (v := .ref 7) kc_99_6 rfl rfl rfl A106 rfl ?_
              obtain ⟨y159, A159, hy159, ry159⟩ := xk_arr K.1 xD_7
              have A160 := ((eh103.2.1 7 (by decide)).trans ((eh90.2.1 7 (by decide)).trans A159))
              refine xi_arraylength (pc' := 10) (n := 601) (v := 601) kc_99_9 rfl (xl_lenI (by decide) (by decide) A160 hy159) rfl ?_
              refine xi_cmt (pc' := 20) kc_99_10 rfl (xc_lt_t (X := (a6.toInt + (-1))) (Y := 601) zv105 (by decide) (by omega)) ?_
              refine xi_aload_n (pc' := 21) (x := 5) kc_99_20 rfl rfl ?_
              refine xi_getfield (pc' := 24) (v := .ref 7) kc_99_21 rfl rfl rfl A106 rfl ?_
              refine xi_iload_n (pc' := 25) (x := v105) kc_99_24 rfl rfl ?_
              obtain ⟨v161, ev161, bv161, dv161⟩ := xj_get hy159 ry159 (i := v105) (by rw [zv105]; omega) (by rw [zv105]; omega)
              refine xi_iaload (pc' := 26) (v := v161) kc_99_25 rfl A160 (by decide) rfl (xi_in (by rw [zv105]; omega) (by rw [hy159]; rw [zv105]; omega)) ev161 ?_
              refine xi_ireturn kc_99_26 mr_99 rfl ?_
              show xw J ov 98 98 (37, [(3, .int v102), (0, .ref 5), (1, .int a6), (2, .int a10)], [.int v161], hh103) _
              refine xi_istore (pc' := 39) (lv' := [(4, .int v161), (3, .int v102), (0, .ref 5), (1, .int a6), (2, .int a10)]) kc_98_37 rfl rfl (xm_lt ml_98 rfl) ?_
              refine xi_iload_n (pc' := 40) (x := a6) kc_98_39 rfl rfl ?_
              refine xi_istore (pc' := 42) (lv' := [(5, .int a6), (4, .int v161), (3, .int v102), (0, .ref 5), (1, .int a6), (2, .int a10)]) kc_98_40 rfl rfl (xm_lt ml_98 rfl) ?_
              refine xw_lv (b := [(0, .ref 5), (3, .int v102), (4, .int v161), (5, .int a6)]) (lvS_cons (lvS_cons (lvS_cons (lvS_cons (lvS_nil (show ([5, 4, 3, 0, 1, 2] : List Nat).Nodup by decide)) rfl) rfl) rfl) rfl) ?_
              refine (lp_98_0 hJ hov1 hov2 (d := 97) (hb := hh103) (fun r162 hh163 K164 => ?_) 602) v102 v161 a6 hh103 (by first | omega | decide) (xk_re K104.1) (by omega)
              have br162 := xc_rng r162
              have A165 := ((eh103.2.1 123 (by decide)).trans ((eh90.2.1 123 (by decide)).trans A2))
              have A166 := ((eh103.2.1 9 (by decide)).trans ((eh90.2.1 9 (by decide)).trans A3))
              have A167 := ((eh103.2.1 124 (by decide)).trans ((eh90.2.1 124 (by decide)).trans A4))
              have A168 := ((eh103.2.1 0 (by decide)).trans A93)
              have K169 := xk_tr K104 K164 rfl
              have A170 := xk_eqa (q := 0) K164 rfl eh103.1
              have A171 := xk_eqa (q := 0) K164 rfl A165
              have A172 := xk_eqa (q := 0) K164 rfl A166
              have A173 := xk_eqa (q := 0) K164 rfl A167
              obtain ⟨u174, u175, bu174, bu175, A176⟩ := xq_0 K169.1
              have e177 : u12 = u175 := xk_eqi (q := 9) K164 rfl A168 A176 rfl rfl
              subst e177
              show xw J ov 99 95 (104, [(5, .int 30), (4, .int (-20)), (0, .ref 0), (1, .int a6), (2, .int a8), (3, .int a10)], [.int r162], hh163) _
              refine xi_ireturn kc_95_104 mr_95 rfl ?_
              show xw J ov 100 195 (312, [(4, .int x4), (3, .ref 167), (2, .ref 115), (1, .ref 0), (0, .ref 1000000)], [.int r162], hh163) _
              refine xi_aload_n (pc' := 313) (x := 115) kc_195_312 rfl rfl ?_
              refine xi_aload_n (pc' := 314) (x := 1000000) kc_195_313 rfl rfl ?_
              refine xi_iload (pc' := 316) (x := x4) kc_195_314 rfl rfl ?_
              refine xi_iconst (pc' := 317) (v := 1) kc_195_316 rfl rfl ?_
              refine xi_iadd (pc' := 318) (v := v5) kc_195_317 rfl ev5 ?_
              refine xi_ialoadO (pc' := 319) (v := a6) kc_195_318 rfl (by decide) hov0 (xi_in (by omega) (by omega)) ea6 ?_
              refine xi_aload_n (pc' := 320) (x := 1000000) kc_195_319 rfl rfl ?_
              refine xi_iload (pc' := 322) (x := x4) kc_195_320 rfl rfl ?_
              refine xi_iconst (pc' := 323) (v := 2) kc_195_322 rfl rfl ?_
              refine xi_iadd (pc' := 324) (v := v7) kc_195_323 rfl ev7 ?_
              refine xi_ialoadO (pc' := 325) (v := a8) kc_195_324 rfl (by decide) hov0 (xi_in (by omega) (by omega)) ea8 ?_
              refine xi_aload_n (pc' := 326) (x := 1000000) kc_195_325 rfl rfl ?_
              refine xi_iload (pc' := 328) (x := x4) kc_195_326 rfl rfl ?_
              refine xi_iconst (pc' := 329) (v := 3) kc_195_328 rfl rfl ?_
              refine xi_iadd (pc' := 330) (v := v9) kc_195_329 rfl ev9 ?_
              refine xi_ialoadO (pc' := 331) (v := a10) kc_195_330 rfl (by decide) hov0 (xi_in (by omega) (by omega)) ea10 ?_
              obtain ⟨u178, u179, u180, u181, u182, u183, u184, u185, u186, u187, u188, u189, u190, bu178, bu179, bu180, bu181, bu182, bu183, bu184, bu185, bu186, bu187, bu188, bu189, bu190, A191⟩ := xq_115 K169.1
              refine xi_virtual (mj := 16) (as := [.int a6, .int a8, .int a10]) (st1 := [.int r162]) (lv0 := [(0, .ref 115), (1, .int a6), (2, .int a8), (3, .int a10)]) kc_195_331 rfl rfl rfl rfl rfl A191 (Nat.le_of_ble_eq_true rfl) (hJ _ _ _ _ (by decide)) (xm_le ml_16 rfl) rfl ?_
              refine xi_aload_n (pc' := 1) (x := 115) kc_16_0 rfl rfl ?_
              refine xi_iconst (pc' := 2) (v := 0) kc_16_1 rfl rfl ?_
              refine xi_putfield (pc' := 5) (fs' := [.int 0, .int u179, .ref 116, .ref 117, .ref 118, .ref 119, .ref 120, .ref 121, .ref 122, .ref 123, .ref 124, .ref 125, .ref 126, .ref 127, .ref 128, .ref 129, .int u180, .ref 130, .int u181, .ref 131, .ref 132, .ref 133, .ref 134, .int u182, .ref 135, .ref 136, .ref 137, .ref 138, .ref 139, .ref 140, .ref 141, .ref 142, .int u183, .int u184, .int u185, .ref 143, .ref 144, .ref 145, .ref 146, .ref 147, .ref 148, .int u186, .ref 149, .ref 150, .ref 151, .int u187, .ref 152, .ref 153, .ref 154, .ref 155, .ref 156, .ref 157, .ref 158, .ref 159, .int u188, .ref 160, .int u189, .ref 161, .ref 162, .ref 163, .ref 164, .int u190, .ref 165, .ref 166]) kc_16_2 rfl rfl rfl A191 rfl rfl rfl (Nat.le_of_ble_eq_true rfl) rfl (fun hh193 eh192 => ?_)
              have K194 := xk_pf (k := 0) (v := 0) K169 (xk_wf rfl) xD_115 A191 rfl (by first | omega | decide) (by first | omega | decide) eh192 rfl
              refine xi_iload_n (pc' := 6) (x := a8) kc_16_5 rfl rfl ?_
              refine xi_iconst (pc' := 7) (v := 0) kc_16_6 rfl rfl ?_
              refine xi_iconst (pc' := 8) (v := 1) kc_16_7 rfl rfl ?_
              refine xi_static (mj := 11) (as := [.int a8, .int 0, .int 1]) (st1 := []) (lv0 := [(0, .int a8), (1, .int 0), (2, .int 1)]) kc_16_8 rfl rfl (Nat.le_of_ble_eq_true rfl) rfl rfl (Nat.le_of_ble_eq_true rfl) (hJ _ _ _ _ (by decide)) (xm_le ml_11 rfl) rfl ?_
              refine xi_iload_n (pc' := 1) (x := a8) kc_11_0 rfl rfl ?_
              refine xi_iload_n (pc' := 2) (x := 0) kc_11_1 rfl rfl ?_
              refine xi_cmf (pc' := 5) kc_11_2 rfl (xc_lt_f (X := a8.toInt) (Y := 0) rfl (by decide) (by omega)) ?_
              refine xi_iload_n (pc' := 6) (x := a8) kc_11_5 rfl rfl ?_
              refine xi_iload_n (pc' := 7) (x := 1) kc_11_6 rfl rfl ?_
              refine xi_cmf (pc' := 10) kc_11_7 rfl (xc_gt_f (X := a8.toInt) (Y := 1) rfl (by decide) (by omega)) ?_
              refine xi_iconst (pc' := 11) (v := 1) kc_11_10 rfl rfl ?_
              refine xi_goto (pc' := 15) kc_11_11 rfl ?_
              refine xi_ireturn kc_11_15 mr_11 rfl ?_
              show xw J ov 99 16 (11, [(0, .ref 115), (1, .int a6), (2, .int a8), (3, .int a10)], [.int 1], hh193) _
              refine xi_ift (pc' := 21) kc_16_11 rfl rfl ?_
              refine xi_iload_n (pc' := 22) (x := a6) kc_16_21 rfl rfl ?_
              refine xi_iff (pc' := 25) kc_16_22 rfl (xc_lt_f (X := a6.toInt) (Y := 0) rfl (by decide) (by omega)) ?_
              refine xi_iload_n (pc' := 26) (x := a10) kc_16_25 rfl rfl ?_
              refine xi_iload_n (pc' := 27) (x := a8) kc_16_26 rfl rfl ?_
              refine xi_iff (pc' := 30) kc_16_27 rfl (xc_ne_f (X := a8.toInt) (Y := 0) rfl (by decide) (by omega)) ?_
              refine xi_bipush (pc' := 32) (v := (-20)) kc_16_30 rfl rfl ?_
              refine xi_goto (pc' := 36) kc_16_32 rfl ?_
              refine xi_cmt (pc' := 46) kc_16_36 rfl (xc_ge_t (X := a10.toInt) (Y := (-20)) rfl (by decide) (by omega)) ?_
              refine xi_iload_n (pc' := 47) (x := a6) kc_16_46 rfl rfl ?_
              refine xi_sipush (pc' := 50) (v := 599) kc_16_47 rfl rfl ?_
              refine xi_cmf (pc' := 53) kc_16_50 rfl (xc_gt_f (X := a6.toInt) (Y := 599) rfl (by decide) (by omega)) ?_
              refine xi_iload_n (pc' := 54) (x := a10) kc_16_53 rfl rfl ?_
              refine xi_iload_n (pc' := 55) (x := a8) kc_16_54 rfl rfl ?_
              refine xi_iff (pc' := 58) kc_16_55 rfl (xc_ne_f (X := a8.toInt) (Y := 0) rfl (by decide) (by omega)) ?_
              refine xi_bipush (pc' := 60) (v := 30) kc_16_58 rfl rfl ?_
              refine xi_goto (pc' := 65) kc_16_60 rfl ?_
              refine xi_cmt (pc' := 81) kc_16_65 rfl (xc_le_t (X := a10.toInt) (Y := 30) rfl (by decide) (by omega)) ?_
              refine xi_iload_n (pc' := 82) (x := a8) kc_16_81 rfl rfl ?_
              refine xi_iff (pc' := 85) kc_16_82 rfl (xc_ne_f (X := a8.toInt) (Y := 0) rfl (by decide) (by omega)) ?_
              refine xi_aload_n (pc' := 86) (x := 115) kc_16_85 rfl rfl ?_
              refine xi_getfield (pc' := 89) (v := .ref 123) kc_16_86 rfl rfl rfl eh192.1 rfl ?_
              refine xi_iload_n (pc' := 90) (x := a6) kc_16_89 rfl rfl ?_
              have A195 := ((eh192.2.1 123 (by decide)).trans A171)
              refine xi_iaload (pc' := 91) (v := v102) kc_16_90 rfl A195 (by decide) rfl (xi_in (by omega) (by rw [hy2]; omega)) (xE_ld H0 (by first | omega | decide) (by first | omega | decide) (by omega) ev102) ?_
              refine xi_goto (pc' := 100) kc_16_91 rfl ?_
              refine xi_istore (pc' := 102) (lv' := [(4, .int v102), (0, .ref 115), (1, .int a6), (2, .int a8), (3, .int a10)]) kc_16_100 rfl rfl (xm_lt ml_16 rfl) ?_
              refine xi_aload_n (pc' := 103) (x := 115) kc_16_102 rfl rfl ?_
              refine xi_getfield (pc' := 106) (v := .ref 123) kc_16_103 rfl rfl rfl eh192.1 rfl ?_
              refine xi_iload_n (pc' := 107) (x := a6) kc_16_106 rfl rfl ?_
              refine xi_iload_n (pc' := 108) (x := a8) kc_16_107 rfl rfl ?_
              refine xi_iff (pc' := 111) kc_16_108 rfl (xc_ne_f (X := a8.toInt) (Y := 0) rfl (by decide) (by omega)) ?_
              refine xi_iload_n (pc' := 112) (x := a10) kc_16_111 rfl rfl ?_
              refine xi_goto (pc' := 121) kc_16_112 rfl ?_
              obtain ⟨y196, s196, hy196, ry196⟩ := xj_set (v := a10) hy2 ry2 a6 (by first | omega | decide) (by first | omega | decide)
              refine xi_iastore (pc' := 122) (x' := y196) kc_16_121 rfl A195 rfl (xi_in (by omega) (by rw [hy2]; omega)) s196 (fun hh196 eh196 => ?_)
              have K197 := xk_pa K194 (xk_wa rfl) xD_123 hy196 ry196 eh196
              refine xi_aload_n (pc' := 123) (x := 115) kc_16_122 rfl rfl ?_
              have A198 := ((eh196.2.1 115 (by decide)).trans eh192.1)
              refine xi_getfield (pc' := 126) (v := .ref 124) kc_16_123 rfl rfl rfl A198 rfl ?_
              refine xi_iload_n (pc' := 127) (x := a6) kc_16_126 rfl rfl ?_
              refine xi_iload_n (pc' := 128) (x := a8) kc_16_127 rfl rfl ?_
              refine xi_iconst (pc' := 129) (v := 1) kc_16_128 rfl rfl ?_
              refine xi_cmt (pc' := 136) kc_16_129 rfl (xc_ne_t (X := a8.toInt) (Y := 1) rfl (by decide) (by omega)) ?_
              refine xi_aload_n (pc' := 137) (x := 115) kc_16_136 rfl rfl ?_
              refine xi_getfield (pc' := 140) (v := .ref 124) kc_16_137 rfl rfl rfl A198 rfl ?_
              refine xi_iload_n (pc' := 141) (x := a6) kc_16_140 rfl rfl ?_
              obtain ⟨v199, ev199, bv199, dv199⟩ := xj_get hy4 ry4 (i := a6) (by omega) (by omega)
              have A200 := ((eh196.2.1 124 (by decide)).trans ((eh192.2.1 124 (by decide)).trans A173))
              refine xi_iaload (pc' := 142) (v := v199) kc_16_141 rfl A200 (by decide) rfl (xi_in (by omega) (by rw [hy4]; omega)) ev199 ?_
              obtain ⟨y201, s201, hy201, ry201⟩ := xj_set (v := v199) hy4 ry4 a6 (by first | omega | decide) (by first | omega | decide)
              refine xi_iastore (pc' := 143) (x' := y201) kc_16_142 rfl A200 rfl (xi_in (by omega) (by rw [hy4]; omega)) s201 (fun hh201 eh201 => ?_)
              have K202 := xk_pa K197 (xk_wa rfl) xD_124 hy201 ry201 eh201
              refine xi_aload_n (pc' := 144) (x := 115) kc_16_143 rfl rfl ?_
              refine xi_iconst (pc' := 145) (v := 0) kc_16_144 rfl rfl ?_
              have A203 := ((eh201.2.1 115 (by decide)).trans A198)
              refine xi_putfield (pc' := 148) (fs' := [.int 0, .int u179, .ref 116, .ref 117, .ref 118, .ref 119, .ref 120, .ref 121, .ref 122, .ref 123, .ref 124, .ref 125, .ref 126, .ref 127, .ref 128, .ref 129, .int u180, .ref 130, .int u181, .ref 131, .ref 132, .ref 133, .ref 134, .int u182, .ref 135, .ref 136, .ref 137, .ref 138, .ref 139, .ref 140, .ref 141, .ref 142, .int u183, .int u184, .int u185, .ref 143, .ref 144, .ref 145, .ref 146, .ref 147, .ref 148, .int 0, .ref 149, .ref 150, .ref 151, .int u187, .ref 152, .ref 153, .ref 154, .ref 155, .ref 156, .ref 157, .ref 158, .ref 159, .int u188, .ref 160, .int u189, .ref 161, .ref 162, .ref 163, .ref 164, .int u190, .ref 165, .ref 166]) kc_16_145 rfl rfl rfl A203 rfl rfl rfl (Nat.le_of_ble_eq_true rfl) rfl (fun hh205 eh204 => ?_)
              have K206 := xk_pf (k := 41) (v := 0) K202 (xk_wf rfl) xD_115 A203 rfl (by first | omega | decide) (by first | omega | decide) eh204 rfl
              refine xi_iload (pc' := 150) (x := v102) kc_16_148 rfl rfl ?_
              refine xi_ireturn kc_16_150 mr_16 rfl ?_
              show xw J ov 100 195 (334, [(4, .int x4), (3, .ref 167), (2, .ref 115), (1, .ref 0), (0, .ref 1000000)], [.int v102, .int r162], hh205) _
              by_cases c207 : r162.toInt = v102.toInt
              · refine xi_cmt (pc' := 1501) kc_195_334 rfl (xc_eq_t (X := r162.toInt) (Y := v102.toInt) rfl rfl (by omega)) ?_
                obtain ⟨v208, ev208⟩ : ∃ q : Int32, x4 + 6 = q := ⟨_, rfl⟩
                have zv208 : v208.toInt = (x4.toInt + 6) := by rw [← ev208]; exact (xz_add (X := x4.toInt) (Y := 6) rfl (by decide) (by omega) (by omega)).trans (by omega)
                refine xi_iinc (pc' := 1504) (x := x4) (v := v208) (lv' := [(4, .int v208), (3, .ref 167), (2, .ref 115), (1, .ref 0), (0, .ref 1000000)]) kc_195_1501 rfl rfl ev208 rfl (xm_lt ml_195 rfl) ?_
                refine xi_goto (pc' := 23) kc_195_1504 rfl ?_
                have A209 := ((eh204.2.1 6 (by decide)).trans ((eh201.2.1 6 (by decide)).trans ((eh196.2.1 6 (by decide)).trans ((eh192.2.1 6 (by decide)).trans A170))))
                have A210 := ((eh204.2.1 123 (by decide)).trans ((eh201.2.1 123 (by decide)).trans eh196.1))
                have A211 := ((eh204.2.1 9 (by decide)).trans ((eh201.2.1 9 (by decide)).trans ((eh196.2.1 9 (by decide)).trans ((eh192.2.1 9 (by decide)).trans A172))))
                have A212 := ((eh204.2.1 124 (by decide)).trans eh201.1)
                exact kk v208 hh205 (by omega) K206 ⟨(xE_mk A209 A210 (xE_set H0 (by first | omega | decide) (by omega) (by omega) (by omega) s103 s196)), (xE_mk A211 A212 (xE_id H1 ev199 s201))⟩
              · refine xi_cmf (pc' := 337) kc_195_334 rfl (xc_eq_f (X := r162.toInt) (Y := v102.toInt) rfl rfl (by omega)) ?_
                refine xi_iconst (pc' := 338) (v := 0) kc_195_337 rfl rfl ?_
                refine xi_ireturn kc_195_338 mr_195 rfl ?_
                exfalso; omega
          · refine xi_cmf (pc' := 71) kc_95_68 rfl (xc_le_f (X := a10.toInt) (Y := 30) rfl (by decide) (by omega)) ?_
            refine xi_iload_n (pc' := 72) (x := a10) kc_95_71 rfl rfl ?_
            refine xi_bipush (pc' := 74) (v := 99) kc_95_72 rfl rfl ?_
            by_cases c213 : a10.toInt = 99
            · refine xi_cmt (pc' := 84) kc_95_74 rfl (xc_eq_t (X := a10.toInt) (Y := 99) rfl (by decide) (by omega)) ?_
              refine xi_aload_n (pc' := 85) (x := 0) kc_95_84 rfl rfl ?_
              refine xi_getfield (pc' := 88) (v := .ref 66) kc_95_85 rfl rfl rfl A13 rfl ?_
              obtain ⟨u215, wl214, bu215, A216⟩ := xq_66 K.1
              refine xi_virtual (mj := 91) (as := []) (st1 := []) (lv0 := [(0, .ref 66)]) kc_95_88 rfl rfl rfl rfl rfl A216 (Nat.le_of_ble_eq_true rfl) (hJ _ _ _ _ (by decide)) (xm_le ml_91 rfl) rfl ?_
              refine xi_aload_n (pc' := 1) (x := 66) kc_91_0 rfl rfl ?_
              refine xi_lconst (pc' := 2) (v := 0) kc_91_1 rfl rfl ?_
              refine xi_putfield (pc' := 5) (fs' := [.ref 1, .ref 67, .ref 70, .ref 71, .ref 72, .ref 73, .ref 74, .long 0, .int u215]) kc_91_2 rfl rfl rfl A216 rfl rfl rfl (Nat.le_of_ble_eq_true rfl) rfl (fun hh218 eh217 => ?_)
              have K219 := xk_pl (k := 7) (v := 0) K (xk_wf rfl) xD_66 A216 rfl eh217 rfl
              refine xi_return kc_91_5 mr_91 ?_
              show xw J ov 99 95 (91, [(5, .int 30), (4, .int (-20)), (0, .ref 0), (1, .int a6), (2, .int a8), (3, .int a10)], [], hh218) _
              refine xi_aload_n (pc' := 92) (x := 0) kc_95_91 rfl rfl ?_
              have A220 := ((eh217.2.1 0 (by decide)).trans A13)
              refine xi_getfield (pc' := 95) (v := .ref 1) kc_95_92 rfl rfl rfl A220 rfl ?_
              refine xi_iload_n (pc' := 96) (x := a8) kc_95_95 rfl rfl ?_
              obtain ⟨u221, u222, bu221, bu222, A223⟩ := xq_1 K.1
              have A224 := ((eh217.2.1 1 (by decide)).trans A223)
              refine xi_virtual (mj := 97) (as := [.int a8]) (st1 := []) (lv0 := [(0, .ref 1), (1, .int a8)]) kc_95_96 rfl rfl rfl rfl rfl A224 (Nat.le_of_ble_eq_true rfl) (hJ _ _ _ _ (by decide)) (xm_le ml_97 rfl) rfl ?_
              refine xi_iload_n (pc' := 1) (x := a8) kc_97_0 rfl rfl ?_
              refine xi_iff (pc' := 4) kc_97_1 rfl (xc_ne_f (X := a8.toInt) (Y := 0) rfl (by decide) (by omega)) ?_
              refine xi_aload_n (pc' := 5) (x := 1) kc_97_4 rfl rfl ?_
              refine xi_getfield (pc' := 8) (v := .ref 5) kc_97_5 rfl rfl rfl A224 rfl ?_
              refine xi_goto (pc' := 15) kc_97_8 rfl ?_
              refine xi_areturn kc_97_15 (by rw [mr_97]; rfl) ?_
              show xw J ov 99 95 (99, [(5, .int 30), (4, .int (-20)), (0, .ref 0), (1, .int a6), (2, .int a8), (3, .int a10)], [.ref 5], hh218) _
              refine xi_iload_n (pc' := 100) (x := a6) kc_95_99 rfl rfl ?_
              refine xi_iload_n (pc' := 101) (x := a10) kc_95_100 rfl rfl ?_
              obtain ⟨u225, bu225, A226⟩ := xq_5 K.1
              have A227 := ((eh217.2.1 5 (by decide)).trans A226)
              refine xi_virtual (mj := 98) (as := [.int a6, .int a10]) (st1 := []) (lv0 := [(0, .ref 5), (1, .int a6), (2, .int a10)]) kc_95_101 rfl rfl rfl rfl rfl A227 (Nat.le_of_ble_eq_true rfl) (hJ _ _ _ _ (by decide)) (xm_le ml_98 rfl) rfl ?_
              refine xi_iload_n (pc' := 1) (x := a6) kc_98_0 rfl rfl ?_
              refine xi_iff (pc' := 4) kc_98_1 rfl (xc_lt_f (X := a6.toInt) (Y := 0) rfl (by decide) (by omega)) ?_
              refine xi_iload_n (pc' := 5) (x := a6) kc_98_4 rfl rfl ?_
              refine xi_aload_n (pc' := 6) (x := 5) kc_98_5 rfl rfl ?_
              refine xi_getfield (pc' := 9) (v := .ref 6) kc_98_6 rfl rfl rfl A227 rfl ?_
              have A228 := ((eh217.2.1 6 (by decide)).trans A1)
              refine xi_arraylength (pc' := 10) (n := 601) (v := 601) kc_98_9 rfl (xl_lenI (by decide) (by decide) A228 hy1) rfl ?_
              refine xi_cmt (pc' := 16) kc_98_10 rfl (xc_lt_t (X := a6.toInt) (Y := 601) rfl (by decide) (by omega)) ?_
              refine xi_aload_n (pc' := 17) (x := 5) kc_98_16 rfl rfl ?_
              refine xi_getfield (pc' := 20) (v := .ref 6) kc_98_17 rfl rfl rfl A227 rfl ?_
              refine xi_iload_n (pc' := 21) (x := a6) kc_98_20 rfl rfl ?_
              obtain ⟨v229, ev229, bv229, dv229⟩ := xj_get hy1 ry1 (i := a6) (by omega) (by omega)
              refine xi_iaload (pc' := 22) (v := v229) kc_98_21 rfl A228 (by decide) rfl (xi_in (by omega) (by rw [hy1]; omega)) ev229 ?_
              refine xi_istore_n (pc' := 23) (lv' := [(3, .int v229), (0, .ref 5), (1, .int a6), (2, .int a10)]) kc_98_22 rfl rfl (xm_lt ml_98 rfl) ?_
              refine xi_aload_n (pc' := 24) (x := 5) kc_98_23 rfl rfl ?_
              refine xi_getfield (pc' := 27) (v := .ref 6) kc_98_24 rfl rfl rfl A227 rfl ?_
              refine xi_iload_n (pc' := 28) (x := a6) kc_98_27 rfl rfl ?_
              refine xi_iload_n (pc' := 29) (x := a10) kc_98_28 rfl rfl ?_
              obtain ⟨y230, s230, hy230, ry230⟩ := xj_set (v := a10) hy1 ry1 a6 (by first | omega | decide) (by first | omega | decide)
              refine xi_iastore (pc' := 30) (x' := y230) kc_98_29 rfl A228 rfl (xi_in (by omega) (by rw [hy1]; omega)) s230 (fun hh230 eh230 => ?_)
              have K231 := xk_pa K219 (xk_wa rfl) xD_6 hy230 ry230 eh230
              refine xi_aload_n (pc' := 31) (x := 5) kc_98_30 rfl rfl ?_
              refine xi_iload_n (pc' := 32) (x := a6) kc_98_31 rfl rfl ?_
              refine xi_iconst (pc' := 33) (v := 1) kc_98_32 rfl rfl ?_
              obtain ⟨v232, ev232⟩ : ∃ q : Int32, a6 - 1 = q := ⟨_, rfl⟩
              have zv232 : v232.toInt = (a6.toInt + (-1)) := by rw [← ev232]; exact (xz_sub (X := a6.toInt) (Y := 1) rfl (by decide) (by omega) (by omega)).trans (by omega)
              refine xi_isub (pc' := 34) (v := v232) kc_98_33 rfl ev232 ?_
              have A233 := ((eh230.2.1 5 (by decide)).trans A227)
              refine xi_virtual (mj := 99) (as := [.int v232]) (st1 := []) (lv0 := [(0, .ref 5), (1, .int v232)]) kc_98_34 rfl rfl rfl rfl rfl A233 (Nat.le_of_ble_eq_true rfl) (hJ _ _ _ _ (by decide)) (xm_le ml_99 rfl) rfl ?_
              refine xi_iload_n (pc' := 1) (x := v232) kc_99_0 rfl rfl ?_
              by_cases c234 : (a6.toInt + (-1)) < 0
              · refine xi_ift (pc' := 13) kc_99_1 rfl (xc_lt_t (X := (a6.toInt + (-1))) (Y := 0) zv232 (by decide) (by omega)) ?_
                refine xi_aload_n (pc' := 14) (x := 5) kc_99_13 rfl rfl ?_
                refine xi_getfield (pc' := 17) (v := .int u225) kc_99_14 rfl rfl rfl A233 rfl ?_
                refine xi_goto (pc' := 26) kc_99_17 rfl ?_
                refine xi_ireturn kc_99_26 mr_99 rfl ?_
                show xw J ov 98 98 (37, [(3, .int v229), (0, .ref 5), (1, .int a6), (2, .int a10)], [.int u225], hh230) _
                refine xi_istore (pc' := 39) (lv' := [(4, .int u225), (3, .int v229), (0, .ref 5), (1, .int a6), (2, .int a10)]) kc_98_37 rfl rfl (xm_lt ml_98 rfl) ?_
                refine xi_iload_n (pc' := 40) (x := a6) kc_98_39 rfl rfl ?_
                refine xi_istore (pc' := 42) (lv' := [(5, .int a6), (4, .int u225), (3, .int v229), (0, .ref 5), (1, .int a6), (2, .int a10)]) kc_98_40 rfl rfl (xm_lt ml_98 rfl) ?_
                refine xw_lv (b := [(0, .ref 5), (3, .int v229), (4, .int u225), (5, .int a6)]) (lvS_cons (lvS_cons (lvS_cons (lvS_cons (lvS_nil (show ([5, 4, 3, 0, 1, 2] : List Nat).Nodup by decide)) rfl) rfl) rfl) rfl) ?_
                refine (lp_98_0 hJ hov1 hov2 (d := 97) (hb := hh230) (fun r235 hh236 K237 => ?_) 602) v229 u225 a6 hh230 (by first | omega | decide) (xk_re K231.1) (by omega)
                have br235 := xc_rng r235
                have A238 := ((eh230.2.1 123 (by decide)).trans ((eh217.2.1 123 (by decide)).trans A2))
                have A239 := ((eh230.2.1 9 (by decide)).trans ((eh217.2.1 9 (by decide)).trans A3))
                have A240 := ((eh230.2.1 124 (by decide)).trans ((eh217.2.1 124 (by decide)).trans A4))
                have A241 := ((eh230.2.1 0 (by decide)).trans A220)
                have K242 := xk_tr K231 K237 rfl
                have A243 := xk_eqa (q := 0) K237 rfl eh230.1
                have A244 := xk_eqa (q := 0) K237 rfl A238
                have A245 := xk_eqa (q := 0) K237 rfl A239
                have A246 := xk_eqa (q := 0) K237 rfl A240
                obtain ⟨u247, u248, bu247, bu248, A249⟩ := xq_0 K242.1
                have e250 : u12 = u248 := xk_eqi (q := 9) K237 rfl A241 A249 rfl rfl
                subst e250
                show xw J ov 99 95 (104, [(5, .int 30), (4, .int (-20)), (0, .ref 0), (1, .int a6), (2, .int a8), (3, .int a10)], [.int r235], hh236) _
                refine xi_ireturn kc_95_104 mr_95 rfl ?_
                show xw J ov 100 195 (312, [(4, .int x4), (3, .ref 167), (2, .ref 115), (1, .ref 0), (0, .ref 1000000)], [.int r235], hh236) _
                refine xi_aload_n (pc' := 313) (x := 115) kc_195_312 rfl rfl ?_
                refine xi_aload_n (pc' := 314) (x := 1000000) kc_195_313 rfl rfl ?_
                refine xi_iload (pc' := 316) (x := x4) kc_195_314 rfl rfl ?_
                refine xi_iconst (pc' := 317) (v := 1) kc_195_316 rfl rfl ?_
                refine xi_iadd (pc' := 318) (v := v5) kc_195_317 rfl ev5 ?_
                refine xi_ialoadO (pc' := 319) (v := a6) kc_195_318 rfl (by decide) hov0 (xi_in (by omega) (by omega)) ea6 ?_
                refine xi_aload_n (pc' := 320) (x := 1000000) kc_195_319 rfl rfl ?_
                refine xi_iload (pc' := 322) (x := x4) kc_195_320 rfl rfl ?_
                refine xi_iconst (pc' := 323) (v := 2) kc_195_322 rfl rfl ?_
                refine xi_iadd (pc' := 324) (v := v7) kc_195_323 rfl ev7 ?_
                refine xi_ialoadO (pc' := 325) (v := a8) kc_195_324 rfl (by decide) hov0 (xi_in (by omega) (by omega)) ea8 ?_
                refine xi_aload_n (pc' := 326) (x := 1000000) kc_195_325 rfl rfl ?_
                refine xi_iload (pc' := 328) (x := x4) kc_195_326 rfl rfl ?_
                refine xi_iconst (pc' := 329) (v := 3) kc_195_328 rfl rfl ?_
                refine xi_iadd (pc' := 330) (v := v9) kc_195_329 rfl ev9 ?_
                refine xi_ialoadO (pc' := 331) (v := a10) kc_195_330 rfl (by decide) hov0 (xi_in (by omega) (by omega)) ea10 ?_
                obtain ⟨u251, u252, u253, u254, u255, u256, u257, u258, u259, u260, u261, u262, u263, bu251, bu252, bu253, bu254, bu255, bu256, bu257, bu258, bu259, bu260, bu261, bu262, bu263, A264⟩ := xq_115 K242.1
                refine xi_virtual (mj := 16) (as := [.int a6, .int a8, .int a10]) (st1 := [.int r235]) (lv0 := [(0, .ref 115), (1, .int a6), (2, .int a8), (3, .int a10)]) kc_195_331 rfl rfl rfl rfl rfl A264 (Nat.le_of_ble_eq_true rfl) (hJ _ _ _ _ (by decide)) (xm_le ml_16 rfl) rfl ?_
                refine xi_aload_n (pc' := 1) (x := 115) kc_16_0 rfl rfl ?_
                refine xi_iconst (pc' := 2) (v := 0) kc_16_1 rfl rfl ?_
                refine xi_putfield (pc' := 5) (fs' := [.int 0, .int u252, .ref 116, .ref 117, .ref 118, .ref 119, .ref 120, .ref 121, .ref 122, .ref 123, .ref 124, .ref 125, .ref 126, .ref 127, .ref 128, .ref 129, .int u253, .ref 130, .int u254, .ref 131, .ref 132, .ref 133, .ref 134, .int u255, .ref 135, .ref 136, .ref 137, .ref 138, .ref 139, .ref 140, .ref 141, .ref 142, .int u256, .int u257, .int u258, .ref 143, .ref 144, .ref 145, .ref 146, .ref 147, .ref 148, .int u259, .ref 149, .ref 150, .ref 151, .int u260, .ref 152, .ref 153, .ref 154, .ref 155, .ref 156, .ref 157, .ref 158, .ref 159, .int u261, .ref 160, .int u262, .ref 161, .ref 162, .ref 163, .ref 164, .int u263, .ref 165, .ref 166]) kc_16_2 rfl rfl rfl A264 rfl rfl rfl (Nat.le_of_ble_eq_true rfl) rfl (fun hh266 eh265 => ?_)
                have K267 := xk_pf (k := 0) (v := 0) K242 (xk_wf rfl) xD_115 A264 rfl (by first | omega | decide) (by first | omega | decide) eh265 rfl
                refine xi_iload_n (pc' := 6) (x := a8) kc_16_5 rfl rfl ?_
                refine xi_iconst (pc' := 7) (v := 0) kc_16_6 rfl rfl ?_
                refine xi_iconst (pc' := 8) (v := 1) kc_16_7 rfl rfl ?_
                refine xi_static (mj := 11) (as := [.int a8, .int 0, .int 1]) (st1 := []) (lv0 := [(0, .int a8), (1, .int 0), (2, .int 1)]) kc_16_8 rfl rfl (Nat.le_of_ble_eq_true rfl) rfl rfl (Nat.le_of_ble_eq_true rfl) (hJ _ _ _ _ (by decide)) (xm_le ml_11 rfl) rfl ?_
                refine xi_iload_n (pc' := 1) (x := a8) kc_11_0 rfl rfl ?_
                refine xi_iload_n (pc' := 2) (x := 0) kc_11_1 rfl rfl ?_
                refine xi_cmf (pc' := 5) kc_11_2 rfl (xc_lt_f (X := a8.toInt) (Y := 0) rfl (by decide) (by omega)) ?_
                refine xi_iload_n (pc' := 6) (x := a8) kc_11_5 rfl rfl ?_
                refine xi_iload_n (pc' := 7) (x := 1) kc_11_6 rfl rfl ?_
                refine xi_cmf (pc' := 10) kc_11_7 rfl (xc_gt_f (X := a8.toInt) (Y := 1) rfl (by decide) (by omega)) ?_
                refine xi_iconst (pc' := 11) (v := 1) kc_11_10 rfl rfl ?_
                refine xi_goto (pc' := 15) kc_11_11 rfl ?_
                refine xi_ireturn kc_11_15 mr_11 rfl ?_
                show xw J ov 99 16 (11, [(0, .ref 115), (1, .int a6), (2, .int a8), (3, .int a10)], [.int 1], hh266) _
                refine xi_ift (pc' := 21) kc_16_11 rfl rfl ?_
                refine xi_iload_n (pc' := 22) (x := a6) kc_16_21 rfl rfl ?_
                refine xi_iff (pc' := 25) kc_16_22 rfl (xc_lt_f (X := a6.toInt) (Y := 0) rfl (by decide) (by omega)) ?_
                refine xi_iload_n (pc' := 26) (x := a10) kc_16_25 rfl rfl ?_
                refine xi_iload_n (pc' := 27) (x := a8) kc_16_26 rfl rfl ?_
                refine xi_iff (pc' := 30) kc_16_27 rfl (xc_ne_f (X := a8.toInt) (Y := 0) rfl (by decide) (by omega)) ?_
                refine xi_bipush (pc' := 32) (v := (-20)) kc_16_30 rfl rfl ?_
                refine xi_goto (pc' := 36) kc_16_32 rfl ?_
                refine xi_cmt (pc' := 46) kc_16_36 rfl (xc_ge_t (X := a10.toInt) (Y := (-20)) rfl (by decide) (by omega)) ?_
                refine xi_iload_n (pc' := 47) (x := a6) kc_16_46 rfl rfl ?_
                refine xi_sipush (pc' := 50) (v := 599) kc_16_47 rfl rfl ?_
                refine xi_cmf (pc' := 53) kc_16_50 rfl (xc_gt_f (X := a6.toInt) (Y := 599) rfl (by decide) (by omega)) ?_
                refine xi_iload_n (pc' := 54) (x := a10) kc_16_53 rfl rfl ?_
                refine xi_iload_n (pc' := 55) (x := a8) kc_16_54 rfl rfl ?_
                refine xi_iff (pc' := 58) kc_16_55 rfl (xc_ne_f (X := a8.toInt) (Y := 0) rfl (by decide) (by omega)) ?_
                refine xi_bipush (pc' := 60) (v := 30) kc_16_58 rfl rfl ?_
                refine xi_goto (pc' := 65) kc_16_60 rfl ?_
                refine xi_cmf (pc' := 68) kc_16_65 rfl (xc_le_f (X := a10.toInt) (Y := 30) rfl (by decide) (by omega)) ?_
                refine xi_iload_n (pc' := 69) (x := a10) kc_16_68 rfl rfl ?_
                refine xi_bipush (pc' := 71) (v := 99) kc_16_69 rfl rfl ?_
                refine xi_cmt (pc' := 81) kc_16_71 rfl (xc_eq_t (X := a10.toInt) (Y := 99) rfl (by decide) (by omega)) ?_
                refine xi_iload_n (pc' := 82) (x := a8) kc_16_81 rfl rfl ?_
                refine xi_iff (pc' := 85) kc_16_82 rfl (xc_ne_f (X := a8.toInt) (Y := 0) rfl (by decide) (by omega)) ?_
                refine xi_aload_n (pc' := 86) (x := 115) kc_16_85 rfl rfl ?_
                refine xi_getfield (pc' := 89) (v := .ref 123) kc_16_86 rfl rfl rfl eh265.1 rfl ?_
                refine xi_iload_n (pc' := 90) (x := a6) kc_16_89 rfl rfl ?_
                have A268 := ((eh265.2.1 123 (by decide)).trans A244)
                refine xi_iaload (pc' := 91) (v := v229) kc_16_90 rfl A268 (by decide) rfl (xi_in (by omega) (by rw [hy2]; omega)) (xE_ld H0 (by first | omega | decide) (by first | omega | decide) (by omega) ev229) ?_
                refine xi_goto (pc' := 100) kc_16_91 rfl ?_
                refine xi_istore (pc' := 102) (lv' := [(4, .int v229), (0, .ref 115), (1, .int a6), (2, .int a8), (3, .int a10)]) kc_16_100 rfl rfl (xm_lt ml_16 rfl) ?_
                refine xi_aload_n (pc' := 103) (x := 115) kc_16_102 rfl rfl ?_
                refine xi_getfield (pc' := 106) (v := .ref 123) kc_16_103 rfl rfl rfl eh265.1 rfl ?_
                refine xi_iload_n (pc' := 107) (x := a6) kc_16_106 rfl rfl ?_
                refine xi_iload_n (pc' := 108) (x := a8) kc_16_107 rfl rfl ?_
                refine xi_iff (pc' := 111) kc_16_108 rfl (xc_ne_f (X := a8.toInt) (Y := 0) rfl (by decide) (by omega)) ?_
                refine xi_iload_n (pc' := 112) (x := a10) kc_16_111 rfl rfl ?_
                refine xi_goto (pc' := 121) kc_16_112 rfl ?_
                obtain ⟨y269, s269, hy269, ry269⟩ := xj_set (v := a10) hy2 ry2 a6 (by first | omega | decide) (by first | omega | decide)
                refine xi_iastore (pc' := 122) (x' := y269) kc_16_121 rfl A268 rfl (xi_in (by omega) (by rw [hy2]; omega)) s269 (fun hh269 eh269 => ?_)
                have K270 := xk_pa K267 (xk_wa rfl) xD_123 hy269 ry269 eh269
                refine xi_aload_n (pc' := 123) (x := 115) kc_16_122 rfl rfl ?_
                have A271 := ((eh269.2.1 115 (by decide)).trans eh265.1)
                refine xi_getfield (pc' := 126) (v := .ref 124) kc_16_123 rfl rfl rfl A271 rfl ?_
                refine xi_iload_n (pc' := 127) (x := a6) kc_16_126 rfl rfl ?_
                refine xi_iload_n (pc' := 128) (x := a8) kc_16_127 rfl rfl ?_
                refine xi_iconst (pc' := 129) (v := 1) kc_16_128 rfl rfl ?_
                refine xi_cmt (pc' := 136) kc_16_129 rfl (xc_ne_t (X := a8.toInt) (Y := 1) rfl (by decide) (by omega)) ?_
                refine xi_aload_n (pc' := 137) (x := 115) kc_16_136 rfl rfl ?_
                refine xi_getfield (pc' := 140) (v := .ref 124) kc_16_137 rfl rfl rfl A271 rfl ?_
                refine xi_iload_n (pc' := 141) (x := a6) kc_16_140 rfl rfl ?_
                obtain ⟨v272, ev272, bv272, dv272⟩ := xj_get hy4 ry4 (i := a6) (by omega) (by omega)
                have A273 := ((eh269.2.1 124 (by decide)).trans ((eh265.2.1 124 (by decide)).trans A246))
                refine xi_iaload (pc' := 142) (v := v272) kc_16_141 rfl A273 (by decide) rfl (xi_in (by omega) (by rw [hy4]; omega)) ev272 ?_
                obtain ⟨y274, s274, hy274, ry274⟩ := xj_set (v := v272) hy4 ry4 a6 (by first | omega | decide) (by first | omega | decide)
                refine xi_iastore (pc' := 143) (x' := y274) kc_16_142 rfl A273 rfl (xi_in (by omega) (by rw [hy4]; omega)) s274 (fun hh274 eh274 => ?_)
                have K275 := xk_pa K270 (xk_wa rfl) xD_124 hy274 ry274 eh274
                refine xi_aload_n (pc' := 144) (x := 115) kc_16_143 rfl rfl ?_
                refine xi_iconst (pc' := 145) (v := 0) kc_16_144 rfl rfl ?_
                have A276 := ((eh274.2.1 115 (by decide)).trans A271)
                refine xi_putfield (pc' := 148) (fs' := [.int 0, .int u252, .ref 116, .ref 117, .ref 118, .ref 119, .ref 120, .ref 121, .ref 122, .ref 123, .ref 124, .ref 125, .ref 126, .ref 127, .ref 128, .ref 129, .int u253, .ref 130, .int u254, .ref 131, .ref 132, .ref 133, .ref 134, .int u255, .ref 135, .ref 136, .ref 137, .ref 138, .ref 139, .ref 140, .ref 141, .ref 142, .int u256, .int u257, .int u258, .ref 143, .ref 144, .ref 145, .ref 146, .ref 147, .ref 148, .int 0, .ref 149, .ref 150, .ref 151, .int u260, .ref 152, .ref 153, .ref 154, .ref 155, .ref 156, .ref 157, .ref 158, .ref 159, .int u261, .ref 160, .int u262, .ref 161, .ref 162, .ref 163, .ref 164, .int u263, .ref 165, .ref 166]) kc_16_145 rfl rfl rfl A276 rfl rfl rfl (Nat.le_of_ble_eq_true rfl) rfl (fun hh278 eh277 => ?_)
                have K279 := xk_pf (k := 41) (v := 0) K275 (xk_wf rfl) xD_115 A276 rfl (by first | omega | decide) (by first | omega | decide) eh277 rfl
                refine xi_iload (pc' := 150) (x := v229) kc_16_148 rfl rfl ?_
                refine xi_ireturn kc_16_150 mr_16 rfl ?_
                show xw J ov 100 195 (334, [(4, .int x4), (3, .ref 167), (2, .ref 115), (1, .ref 0), (0, .ref 1000000)], [.int v229, .int r235], hh278) _
                by_cases c280 : r235.toInt = v229.toInt
                · refine xi_cmt (pc' := 1501) kc_195_334 rfl (xc_eq_t (X := r235.toInt) (Y := v229.toInt) rfl rfl (by omega)) ?_
                  obtain ⟨v281, ev281⟩ : ∃ q : Int32, x4 + 6 = q := ⟨_, rfl⟩
                  have zv281 : v281.toInt = (x4.toInt + 6) := by rw [← ev281]; exact (xz_add (X := x4.toInt) (Y := 6) rfl (by decide) (by omega) (by omega)).trans (by omega)
                  refine xi_iinc (pc' := 1504) (x := x4) (v := v281) (lv' := [(4, .int v281), (3, .ref 167), (2, .ref 115), (1, .ref 0), (0, .ref 1000000)]) kc_195_1501 rfl rfl ev281 rfl (xm_lt ml_195 rfl) ?_
                  refine xi_goto (pc' := 23) kc_195_1504 rfl ?_
                  have A282 := ((eh277.2.1 6 (by decide)).trans ((eh274.2.1 6 (by decide)).trans ((eh269.2.1 6 (by decide)).trans ((eh265.2.1 6 (by decide)).trans A243))))
                  have A283 := ((eh277.2.1 123 (by decide)).trans ((eh274.2.1 123 (by decide)).trans eh269.1))
                  have A284 := ((eh277.2.1 9 (by decide)).trans ((eh274.2.1 9 (by decide)).trans ((eh269.2.1 9 (by decide)).trans ((eh265.2.1 9 (by decide)).trans A245))))
                  have A285 := ((eh277.2.1 124 (by decide)).trans eh274.1)
                  exact kk v281 hh278 (by omega) K279 ⟨(xE_mk A282 A283 (xE_set H0 (by first | omega | decide) (by omega) (by omega) (by omega) s230 s269)), (xE_mk A284 A285 (xE_id H1 ev272 s274))⟩
                · refine xi_cmf (pc' := 337) kc_195_334 rfl (xc_eq_f (X := r235.toInt) (Y := v229.toInt) rfl rfl (by omega)) ?_
                  refine xi_iconst (pc' := 338) (v := 0) kc_195_337 rfl rfl ?_
                  refine xi_ireturn kc_195_338 mr_195 rfl ?_
                  exfalso; omega
              · refine xi_iff (pc' := 4) kc_99_1 rfl (xc_lt_f (X := (a6.toInt + (-1))) (Y := 0) zv232 (by decide) (by omega)) ?_
                refine xi_iload_n (pc' := 5) (x := v232) kc_99_4 rfl rfl ?_
                refine xi_aload_n (pc' := 6) (x := 5) kc_99_5 rfl rfl ?_
                refine xi_getfield (pc' := 9) (v := .ref 7) kc_99_6 rfl rfl rfl A233 rfl ?_
                obtain ⟨y286, A286, hy286, ry286⟩ := xk_arr K.1 xD_7
                have A287 := ((eh230.2.1 7 (by decide)).trans ((eh217.2.1 7 (by decide)).trans A286))
                refine xi_arraylength (pc' := 10) (n := 601) (v := 601) kc_99_9 rfl (xl_lenI (by decide) (by decide) A287 hy286) rfl ?_
                refine xi_cmt (pc' := 20) kc_99_10 rfl (xc_lt_t (X := (a6.toInt + (-1))) (Y := 601) zv232 (by decide) (by omega)) ?_
                refine xi_aload_n (pc' := 21) (x := 5) kc_99_20 rfl rfl ?_
                refine xi_getfield (pc' := 24) (v := .ref 7) kc_99_21 rfl rfl rfl A233 rfl ?_
                refine xi_iload_n (pc' := 25) (x := v232) kc_99_24 rfl rfl ?_
                obtain ⟨v288, ev288, bv288, dv288⟩ := xj_get hy286 ry286 (i := v232) (by rw [zv232]; omega) (by rw [zv232]; omega)
                refine xi_iaload (pc' := 26) (v := v288) kc_99_25 rfl A287 (by decide) rfl (xi_in (by rw [zv232]; omega) (by rw [hy286]; rw [zv232]; omega)) ev288 ?_
                refine xi_ireturn kc_99_26 mr_99 rfl ?_
                show xw J ov 98 98 (37, [(3, .int v229), (0, .ref 5), (1, .int a6), (2, .int a10)], [.int v288], hh230) _
                refine xi_istore (pc' := 39) (lv' := [(4, .int v288), (3, .int v229), (0, .ref 5), (1, .int a6), (2, .int a10)]) kc_98_37 rfl rfl (xm_lt ml_98 rfl) ?_
                refine xi_iload_n (pc' := 40) (x := a6) kc_98_39 rfl rfl ?_
                refine xi_istore (pc' := 42) (lv' := [(5, .int a6), (4, .int v288), (3, .int v229), (0, .ref 5), (1, .int a6), (2, .int a10)]) kc_98_40 rfl rfl (xm_lt ml_98 rfl) ?_
                refine xw_lv (b := [(0, .ref 5), (3, .int v229), (4, .int v288), (5, .int a6)]) (lvS_cons (lvS_cons (lvS_cons (lvS_cons (lvS_nil (show ([5, 4, 3, 0, 1, 2] : List Nat).Nodup by decide)) rfl) rfl) rfl) rfl) ?_
                refine (lp_98_0 hJ hov1 hov2 (d := 97) (hb := hh230) (fun r289 hh290 K291 => ?_) 602) v229 v288 a6 hh230 (by first | omega | decide) (xk_re K231.1) (by omega)
                have br289 := xc_rng r289
                have A292 := ((eh230.2.1 123 (by decide)).trans ((eh217.2.1 123 (by decide)).trans A2))
                have A293 := ((eh230.2.1 9 (by decide)).trans ((eh217.2.1 9 (by decide)).trans A3))
                have A294 := ((eh230.2.1 124 (by decide)).trans ((eh217.2.1 124 (by decide)).trans A4))
                have A295 := ((eh230.2.1 0 (by decide)).trans A220)
                have K296 := xk_tr K231 K291 rfl
                have A297 := xk_eqa (q := 0) K291 rfl eh230.1
                have A298 := xk_eqa (q := 0) K291 rfl A292
                have A299 := xk_eqa (q := 0) K291 rfl A293
                have A300 := xk_eqa (q := 0) K291 rfl A294
                obtain ⟨u301, u302, bu301, bu302, A303⟩ := xq_0 K296.1
                have e304 : u12 = u302 := xk_eqi (q := 9) K291 rfl A295 A303 rfl rfl
                subst e304
                show xw J ov 99 95 (104, [(5, .int 30), (4, .int (-20)), (0, .ref 0), (1, .int a6), (2, .int a8), (3, .int a10)], [.int r289], hh290) _
                refine xi_ireturn kc_95_104 mr_95 rfl ?_
                show xw J ov 100 195 (312, [(4, .int x4), (3, .ref 167), (2, .ref 115), (1, .ref 0), (0, .ref 1000000)], [.int r289], hh290) _
                refine xi_aload_n (pc' := 313) (x := 115) kc_195_312 rfl rfl ?_
                refine xi_aload_n (pc' := 314) (x := 1000000) kc_195_313 rfl rfl ?_
                refine xi_iload (pc' := 316) (x := x4) kc_195_314 rfl rfl ?_
                refine xi_iconst (pc' := 317) (v := 1) kc_195_316 rfl rfl ?_
                refine xi_iadd (pc' := 318) (v := v5) kc_195_317 rfl ev5 ?_
                refine xi_ialoadO (pc' := 319) (v := a6) kc_195_318 rfl (by decide) hov0 (xi_in (by omega) (by omega)) ea6 ?_
                refine xi_aload_n (pc' := 320) (x := 1000000) kc_195_319 rfl rfl ?_
                refine xi_iload (pc' := 322) (x := x4) kc_195_320 rfl rfl ?_
                refine xi_iconst (pc' := 323) (v := 2) kc_195_322 rfl rfl ?_
                refine xi_iadd (pc' := 324) (v := v7) kc_195_323 rfl ev7 ?_
                refine xi_ialoadO (pc' := 325) (v := a8) kc_195_324 rfl (by decide) hov0 (xi_in (by omega) (by omega)) ea8 ?_
                refine xi_aload_n (pc' := 326) (x := 1000000) kc_195_325 rfl rfl ?_
                refine xi_iload (pc' := 328) (x := x4) kc_195_326 rfl rfl ?_
                refine xi_iconst (pc' := 329) (v := 3) kc_195_328 rfl rfl ?_
                refine xi_iadd (pc' := 330) (v := v9) kc_195_329 rfl ev9 ?_
                refine xi_ialoadO (pc' := 331) (v := a10) kc_195_330 rfl (by decide) hov0 (xi_in (by omega) (by omega)) ea10 ?_
                obtain ⟨u305, u306, u307, u308, u309, u310, u311, u312, u313, u314, u315, u316, u317, bu305, bu306, bu307, bu308, bu309, bu310, bu311, bu312, bu313, bu314, bu315, bu316, bu317, A318⟩ := xq_115 K296.1
                refine xi_virtual (mj := 16) (as := [.int a6, .int a8, .int a10]) (st1 := [.int r289]) (lv0 := [(0, .ref 115), (1, .int a6), (2, .int a8), (3, .int a10)]) kc_195_331 rfl rfl rfl rfl rfl A318 (Nat.le_of_ble_eq_true rfl) (hJ _ _ _ _ (by decide)) (xm_le ml_16 rfl) rfl ?_
                refine xi_aload_n (pc' := 1) (x := 115) kc_16_0 rfl rfl ?_
                refine xi_iconst (pc' := 2) (v := 0) kc_16_1 rfl rfl ?_
                refine xi_putfield (pc' := 5) (fs' := [.int 0, .int u306, .ref 116, .ref 117, .ref 118, .ref 119, .ref 120, .ref 121, .ref 122, .ref 123, .ref 124, .ref 125, .ref 126, .ref 127, .ref 128, .ref 129, .int u307, .ref 130, .int u308, .ref 131, .ref 132, .ref 133, .ref 134, .int u309, .ref 135, .ref 136, .ref 137, .ref 138, .ref 139, .ref 140, .ref 141, .ref 142, .int u310, .int u311, .int u312, .ref 143, .ref 144, .ref 145, .ref 146, .ref 147, .ref 148, .int u313, .ref 149, .ref 150, .ref 151, .int u314, .ref 152, .ref 153, .ref 154, .ref 155, .ref 156, .ref 157, .ref 158, .ref 159, .int u315, .ref 160, .int u316, .ref 161, .ref 162, .ref 163, .ref 164, .int u317, .ref 165, .ref 166]) kc_16_2 rfl rfl rfl A318 rfl rfl rfl (Nat.le_of_ble_eq_true rfl) rfl (fun hh320 eh319 => ?_)
                have K321 := xk_pf (k := 0) (v := 0) K296 (xk_wf rfl) xD_115 A318 rfl (by first | omega | decide) (by first | omega | decide) eh319 rfl
                refine xi_iload_n (pc' := 6) (x := a8) kc_16_5 rfl rfl ?_
                refine xi_iconst (pc' := 7) (v := 0) kc_16_6 rfl rfl ?_
                refine xi_iconst (pc' := 8) (v := 1) kc_16_7 rfl rfl ?_
                refine xi_static (mj := 11) (as := [.int a8, .int 0, .int 1]) (st1 := []) (lv0 := [(0, .int a8), (1, .int 0), (2, .int 1)]) kc_16_8 rfl rfl (Nat.le_of_ble_eq_true rfl) rfl rfl (Nat.le_of_ble_eq_true rfl) (hJ _ _ _ _ (by decide)) (xm_le ml_11 rfl) rfl ?_
                refine xi_iload_n (pc' := 1) (x := a8) kc_11_0 rfl rfl ?_
                refine xi_iload_n (pc' := 2) (x := 0) kc_11_1 rfl rfl ?_
                refine xi_cmf (pc' := 5) kc_11_2 rfl (xc_lt_f (X := a8.toInt) (Y := 0) rfl (by decide) (by omega)) ?_
                refine xi_iload_n (pc' := 6) (x := a8) kc_11_5 rfl rfl ?_
                refine xi_iload_n (pc' := 7) (x := 1) kc_11_6 rfl rfl ?_
                refine xi_cmf (pc' := 10) kc_11_7 rfl (xc_gt_f (X := a8.toInt) (Y := 1) rfl (by decide) (by omega)) ?_
                refine xi_iconst (pc' := 11) (v := 1) kc_11_10 rfl rfl ?_
                refine xi_goto (pc' := 15) kc_11_11 rfl ?_
                refine xi_ireturn kc_11_15 mr_11 rfl ?_
                show xw J ov 99 16 (11, [(0, .ref 115), (1, .int a6), (2, .int a8), (3, .int a10)], [.int 1], hh320) _
                refine xi_ift (pc' := 21) kc_16_11 rfl rfl ?_
                refine xi_iload_n (pc' := 22) (x := a6) kc_16_21 rfl rfl ?_
                refine xi_iff (pc' := 25) kc_16_22 rfl (xc_lt_f (X := a6.toInt) (Y := 0) rfl (by decide) (by omega)) ?_
                refine xi_iload_n (pc' := 26) (x := a10) kc_16_25 rfl rfl ?_
                refine xi_iload_n (pc' := 27) (x := a8) kc_16_26 rfl rfl ?_
                refine xi_iff (pc' := 30) kc_16_27 rfl (xc_ne_f (X := a8.toInt) (Y := 0) rfl (by decide) (by omega)) ?_
                refine xi_bipush (pc' := 32) (v := (-20)) kc_16_30 rfl rfl ?_
                refine xi_goto (pc' := 36) kc_16_32 rfl ?_
                refine xi_cmt (pc' := 46) kc_16_36 rfl (xc_ge_t (X := a10.toInt) (Y := (-20)) rfl (by decide) (by omega)) ?_
                refine xi_iload_n (pc' := 47) (x := a6) kc_16_46 rfl rfl ?_
                refine xi_sipush (pc' := 50) (v := 599) kc_16_47 rfl rfl ?_
                refine xi_cmf (pc' := 53) kc_16_50 rfl (xc_gt_f (X := a6.toInt) (Y := 599) rfl (by decide) (by omega)) ?_
                refine xi_iload_n (pc' := 54) (x := a10) kc_16_53 rfl rfl ?_
                refine xi_iload_n (pc' := 55) (x := a8) kc_16_54 rfl rfl ?_
                refine xi_iff (pc' := 58) kc_16_55 rfl (xc_ne_f (X := a8.toInt) (Y := 0) rfl (by decide) (by omega)) ?_
                refine xi_bipush (pc' := 60) (v := 30) kc_16_58 rfl rfl ?_
                refine xi_goto (pc' := 65) kc_16_60 rfl ?_
                refine xi_cmf (pc' := 68) kc_16_65 rfl (xc_le_f (X := a10.toInt) (Y := 30) rfl (by decide) (by omega)) ?_
                refine xi_iload_n (pc' := 69) (x := a10) kc_16_68 rfl rfl ?_
                refine xi_bipush (pc' := 71) (v := 99) kc_16_69 rfl rfl ?_
                refine xi_cmt (pc' := 81) kc_16_71 rfl (xc_eq_t (X := a10.toInt) (Y := 99) rfl (by decide) (by omega)) ?_
                refine xi_iload_n (pc' := 82) (x := a8) kc_16_81 rfl rfl ?_
                refine xi_iff (pc' := 85) kc_16_82 rfl (xc_ne_f (X := a8.toInt) (Y := 0) rfl (by decide) (by omega)) ?_
                refine xi_aload_n (pc' := 86) (x := 115) kc_16_85 rfl rfl ?_
                refine xi_getfield (pc' := 89) (v := .ref 123) kc_16_86 rfl rfl rfl eh319.1 rfl ?_
                refine xi_iload_n (pc' := 90) (x := a6) kc_16_89 rfl rfl ?_
                have A322 := ((eh319.2.1 123 (by decide)).trans A298)
                refine xi_iaload (pc' := 91) (v := v229) kc_16_90 rfl A322 (by decide) rfl (xi_in (by omega) (by rw [hy2]; omega)) (xE_ld H0 (by first | omega | decide) (by first | omega | decide) (by omega) ev229) ?_
                refine xi_goto (pc' := 100) kc_16_91 rfl ?_
                refine xi_istore (pc' := 102) (lv' := [(4, .int v229), (0, .ref 115), (1, .int a6), (2, .int a8), (3, .int a10)]) kc_16_100 rfl rfl (xm_lt ml_16 rfl) ?_
                refine xi_aload_n (pc' := 103) (x := 115) kc_16_102 rfl rfl ?_
                refine xi_getfield (pc' := 106) (v := .ref 123) kc_16_103 rfl rfl rfl eh319.1 rfl ?_
                refine xi_iload_n (pc' := 107) (x := a6) kc_16_106 rfl rfl ?_
                refine xi_iload_n (pc' := 108) (x := a8) kc_16_107 rfl rfl ?_
                refine xi_iff (pc' := 111) kc_16_108 rfl (xc_ne_f (X := a8.toInt) (Y := 0) rfl (by decide) (by omega)) ?_
                refine xi_iload_n (pc' := 112) (x := a10) kc_16_111 rfl rfl ?_
                refine xi_goto (pc' := 121) kc_16_112 rfl ?_
                obtain ⟨y323, s323, hy323, ry323⟩ := xj_set (v := a10) hy2 ry2 a6 (by first | omega | decide) (by first | omega | decide)
                refine xi_iastore (pc' := 122) (x' := y323) kc_16_121 rfl A322 rfl (xi_in (by omega) (by rw [hy2]; omega)) s323 (fun hh323 eh323 => ?_)
                have K324 := xk_pa K321 (xk_wa rfl) xD_123 hy323 ry323 eh323
                refine xi_aload_n (pc' := 123) (x := 115) kc_16_122 rfl rfl ?_
                have A325 := ((eh323.2.1 115 (by decide)).trans eh319.1)
                refine xi_getfield (pc' := 126) (v := .ref 124) kc_16_123 rfl rfl rfl A325 rfl ?_
                refine xi_iload_n (pc' := 127) (x := a6) kc_16_126 rfl rfl ?_
                refine xi_iload_n (pc' := 128) (x := a8) kc_16_127 rfl rfl ?_
                refine xi_iconst (pc' := 129) (v := 1) kc_16_128 rfl rfl ?_
                refine xi_cmt (pc' := 136) kc_16_129 rfl (xc_ne_t (X := a8.toInt) (Y := 1) rfl (by decide) (by omega)) ?_
                refine xi_aload_n (pc' := 137) (x := 115) kc_16_136 rfl rfl ?_
                refine xi_getfield (pc' := 140) (v := .ref 124) kc_16_137 rfl rfl rfl A325 rfl ?_
                refine xi_iload_n (pc' := 141) (x := a6) kc_16_140 rfl rfl ?_
                obtain ⟨v326, ev326, bv326, dv326⟩ := xj_get hy4 ry4 (i := a6) (by omega) (by omega)
                have A327 := ((eh323.2.1 124 (by decide)).trans ((eh319.2.1 124 (by decide)).trans A300))
                refine xi_iaload (pc' := 142) (v := v326) kc_16_141 rfl A327 (by decide) rfl (xi_in (by omega) (by rw [hy4]; omega)) ev326 ?_
                obtain ⟨y328, s328, hy328, ry328⟩ := xj_set (v := v326) hy4 ry4 a6 (by first | omega | decide) (by first | omega | decide)
                refine xi_iastore (pc' := 143) (x' := y328) kc_16_142 rfl A327 rfl (xi_in (by omega) (by rw [hy4]; omega)) s328 (fun hh328 eh328 => ?_)
                have K329 := xk_pa K324 (xk_wa rfl) xD_124 hy328 ry328 eh328
                refine xi_aload_n (pc' := 144) (x := 115) kc_16_143 rfl rfl ?_
                refine xi_iconst (pc' := 145) (v := 0) kc_16_144 rfl rfl ?_
                have A330 := ((eh328.2.1 115 (by decide)).trans A325)
                refine xi_putfield (pc' := 148) (fs' := [.int 0, .int u306, .ref 116, .ref 117, .ref 118, .ref 119, .ref 120, .ref 121, .ref 122, .ref 123, .ref 124, .ref 125, .ref 126, .ref 127, .ref 128, .ref 129, .int u307, .ref 130, .int u308, .ref 131, .ref 132, .ref 133, .ref 134, .int u309, .ref 135, .ref 136, .ref 137, .ref 138, .ref 139, .ref 140, .ref 141, .ref 142, .int u310, .int u311, .int u312, .ref 143, .ref 144, .ref 145, .ref 146, .ref 147, .ref 148, .int 0, .ref 149, .ref 150, .ref 151, .int u314, .ref 152, .ref 153, .ref 154, .ref 155, .ref 156, .ref 157, .ref 158, .ref 159, .int u315, .ref 160, .int u316, .ref 161, .ref 162, .ref 163, .ref 164, .int u317, .ref 165, .ref 166]) kc_16_145 rfl rfl rfl A330 rfl rfl rfl (Nat.le_of_ble_eq_true rfl) rfl (fun hh332 eh331 => ?_)
                have K333 := xk_pf (k := 41) (v := 0) K329 (xk_wf rfl) xD_115 A330 rfl (by first | omega | decide) (by first | omega | decide) eh331 rfl
                refine xi_iload (pc' := 150) (x := v229) kc_16_148 rfl rfl ?_
                refine xi_ireturn kc_16_150 mr_16 rfl ?_
                show xw J ov 100 195 (334, [(4, .int x4), (3, .ref 167), (2, .ref 115), (1, .ref 0), (0, .ref 1000000)], [.int v229, .int r289], hh332) _
                by_cases c334 : r289.toInt = v229.toInt
                · refine xi_cmt (pc' := 1501) kc_195_334 rfl (xc_eq_t (X := r289.toInt) (Y := v229.toInt) rfl rfl (by omega)) ?_
                  obtain ⟨v335, ev335⟩ : ∃ q : Int32, x4 + 6 = q := ⟨_, rfl⟩
                  have zv335 : v335.toInt = (x4.toInt + 6) := by rw [← ev335]; exact (xz_add (X := x4.toInt) (Y := 6) rfl (by decide) (by omega) (by omega)).trans (by omega)
                  refine xi_iinc (pc' := 1504) (x := x4) (v := v335) (lv' := [(4, .int v335), (3, .ref 167), (2, .ref 115), (1, .ref 0), (0, .ref 1000000)]) kc_195_1501 rfl rfl ev335 rfl (xm_lt ml_195 rfl) ?_
                  refine xi_goto (pc' := 23) kc_195_1504 rfl ?_
                  have A336 := ((eh331.2.1 6 (by decide)).trans ((eh328.2.1 6 (by decide)).trans ((eh323.2.1 6 (by decide)).trans ((eh319.2.1 6 (by decide)).trans A297))))
                  have A337 := ((eh331.2.1 123 (by decide)).trans ((eh328.2.1 123 (by decide)).trans eh323.1))
                  have A338 := ((eh331.2.1 9 (by decide)).trans ((eh328.2.1 9 (by decide)).trans ((eh323.2.1 9 (by decide)).trans ((eh319.2.1 9 (by decide)).trans A299))))
                  have A339 := ((eh331.2.1 124 (by decide)).trans eh328.1)
                  exact kk v335 hh332 (by omega) K333 ⟨(xE_mk A336 A337 (xE_set H0 (by first | omega | decide) (by omega) (by omega) (by omega) s230 s323)), (xE_mk A338 A339 (xE_id H1 ev326 s328))⟩
                · refine xi_cmf (pc' := 337) kc_195_334 rfl (xc_eq_f (X := r289.toInt) (Y := v229.toInt) rfl rfl (by omega)) ?_
                  refine xi_iconst (pc' := 338) (v := 0) kc_195_337 rfl rfl ?_
                  refine xi_ireturn kc_195_338 mr_195 rfl ?_
                  exfalso; omega
            · refine xi_cmf (pc' := 77) kc_95_74 rfl (xc_eq_f (X := a10.toInt) (Y := 99) rfl (by decide) (by omega)) ?_
              refine xi_aload_n (pc' := 78) (x := 0) kc_95_77 rfl rfl ?_
              refine xi_bipush (pc' := 80) (v := (-6)) kc_95_78 rfl rfl ?_
              refine xi_virtual (mj := 96) (as := [.int (-6)]) (st1 := []) (lv0 := [(0, .ref 0), (1, .int (-6))]) kc_95_80 rfl rfl rfl rfl rfl A13 (Nat.le_of_ble_eq_true rfl) (hJ _ _ _ _ (by decide)) (xm_le ml_96 rfl) rfl ?_
              refine xi_ldc_w (pc' := 3) (v := 1000000000) kc_96_0 rfl rfl ?_
              refine xi_aload_n (pc' := 4) (x := 0) kc_96_3 rfl rfl ?_
              refine xi_iload_n (pc' := 5) (x := (-6)) kc_96_4 rfl rfl ?_
              refine xi_virtual (mj := 90) (as := [.int (-6)]) (st1 := [.int 1000000000]) (lv0 := [(0, .ref 0), (1, .int (-6))]) kc_96_5 rfl rfl rfl rfl rfl A13 (Nat.le_of_ble_eq_true rfl) (hJ _ _ _ _ (by decide)) (xm_le ml_90 rfl) rfl ?_
              refine xi_iload_n (pc' := 1) (x := (-6)) kc_90_0 rfl rfl ?_
              refine xi_ineg (pc' := 2) (v := 6) kc_90_1 rfl rfl ?_
              refine xi_istore_n (pc' := 3) (lv' := [(2, .int 6), (0, .ref 0), (1, .int (-6))]) kc_90_2 rfl rfl (xm_lt ml_90 rfl) ?_
              refine xi_iload_n (pc' := 4) (x := 6) kc_90_3 rfl rfl ?_
              refine xi_iff (pc' := 7) kc_90_4 rfl rfl ?_
              refine xi_iload_n (pc' := 8) (x := 6) kc_90_7 rfl rfl ?_
              refine xi_aload_n (pc' := 9) (x := 0) kc_90_8 rfl rfl ?_
              refine xi_getfield (pc' := 12) (v := .ref 94) kc_90_9 rfl rfl rfl A13 rfl ?_
              obtain ⟨y340, A340, hy340, ry340⟩ := xk_arr K.1 xD_94
              refine xi_arraylength (pc' := 13) (n := 7) (v := 7) kc_90_12 rfl (xl_lenI (by decide) (by decide) A340 hy340) rfl ?_
              refine xi_cmf (pc' := 16) kc_90_13 rfl rfl ?_
              refine xi_aload_n (pc' := 17) (x := 0) kc_90_16 rfl rfl ?_
              refine xi_getfield (pc' := 20) (v := .ref 94) kc_90_17 rfl rfl rfl A13 rfl ?_
              refine xi_iload_n (pc' := 21) (x := 6) kc_90_20 rfl rfl ?_
              refine xi_dup2 (pc' := 22) kc_90_21 rfl ⟨rfl, rfl⟩ ?_
              obtain ⟨v341, ev341, bv341, dv341⟩ := xj_get hy340 ry340 (i := 6) (by decide) (by decide)
              refine xi_iaload (pc' := 23) (v := v341) kc_90_22 rfl A340 (by decide) rfl (xi_in (by decide) (by rw [hy340]; decide)) ev341 ?_
              refine xi_iconst (pc' := 24) (v := 1) kc_90_23 rfl rfl ?_
              obtain ⟨v342, ev342⟩ : ∃ q : Int32, (v341 : Int32) + 1 = q := ⟨_, rfl⟩
              have rv342 := xc_rng v342
              refine xi_iadd (pc' := 25) (v := v342) kc_90_24 rfl ev342 ?_
              obtain ⟨y343, s343, hy343, ry343⟩ := xj_set (v := v342) hy340 ry340 6 (by first | omega | decide) (by first | omega | decide)
              refine xi_iastore (pc' := 26) (x' := y343) kc_90_25 rfl A340 rfl (xi_in (by decide) (by rw [hy340]; decide)) s343 (fun hh343 eh343 => ?_)
              have K344 := xk_pa K (xk_wa rfl) xD_94 hy343 ry343 eh343
              refine xi_iload_n (pc' := 27) (x := (-6)) kc_90_26 rfl rfl ?_
              refine xi_ireturn kc_90_27 mr_90 rfl ?_
              show xw J ov 98 96 (8, [(0, .ref 0), (1, .int (-6))], [.int (-6), .int 1000000000], hh343) _
              refine xi_isub (pc' := 9) (v := 1000000006) kc_96_8 rfl rfl ?_
              refine xi_ireturn kc_96_9 mr_96 rfl ?_
              show xw J ov 99 95 (83, [(5, .int 30), (4, .int (-20)), (0, .ref 0), (1, .int a6), (2, .int a8), (3, .int a10)], [.int 1000000006], hh343) _
              refine xi_ireturn kc_95_83 mr_95 rfl ?_
              show xw J ov 100 195 (312, [(4, .int x4), (3, .ref 167), (2, .ref 115), (1, .ref 0), (0, .ref 1000000)], [.int 1000000006], hh343) _
              refine xi_aload_n (pc' := 313) (x := 115) kc_195_312 rfl rfl ?_
              refine xi_aload_n (pc' := 314) (x := 1000000) kc_195_313 rfl rfl ?_
              refine xi_iload (pc' := 316) (x := x4) kc_195_314 rfl rfl ?_
              refine xi_iconst (pc' := 317) (v := 1) kc_195_316 rfl rfl ?_
              refine xi_iadd (pc' := 318) (v := v5) kc_195_317 rfl ev5 ?_
              refine xi_ialoadO (pc' := 319) (v := a6) kc_195_318 rfl (by decide) hov0 (xi_in (by omega) (by omega)) ea6 ?_
              refine xi_aload_n (pc' := 320) (x := 1000000) kc_195_319 rfl rfl ?_
              refine xi_iload (pc' := 322) (x := x4) kc_195_320 rfl rfl ?_
              refine xi_iconst (pc' := 323) (v := 2) kc_195_322 rfl rfl ?_
              refine xi_iadd (pc' := 324) (v := v7) kc_195_323 rfl ev7 ?_
              refine xi_ialoadO (pc' := 325) (v := a8) kc_195_324 rfl (by decide) hov0 (xi_in (by omega) (by omega)) ea8 ?_
              refine xi_aload_n (pc' := 326) (x := 1000000) kc_195_325 rfl rfl ?_
              refine xi_iload (pc' := 328) (x := x4) kc_195_326 rfl rfl ?_
              refine xi_iconst (pc' := 329) (v := 3) kc_195_328 rfl rfl ?_
              refine xi_iadd (pc' := 330) (v := v9) kc_195_329 rfl ev9 ?_
              refine xi_ialoadO (pc' := 331) (v := a10) kc_195_330 rfl (by decide) hov0 (xi_in (by omega) (by omega)) ea10 ?_
              obtain ⟨u345, u346, u347, u348, u349, u350, u351, u352, u353, u354, u355, u356, u357, bu345, bu346, bu347, bu348, bu349, bu350, bu351, bu352, bu353, bu354, bu355, bu356, bu357, A358⟩ := xq_115 K.1
              have A359 := ((eh343.2.1 115 (by decide)).trans A358)
              refine xi_virtual (mj := 16) (as := [.int a6, .int a8, .int a10]) (st1 := [.int 1000000006]) (lv0 := [(0, .ref 115), (1, .int a6), (2, .int a8), (3, .int a10)]) kc_195_331 rfl rfl rfl rfl rfl A359 (Nat.le_of_ble_eq_true rfl) (hJ _ _ _ _ (by decide)) (xm_le ml_16 rfl) rfl ?_
              refine xi_aload_n (pc' := 1) (x := 115) kc_16_0 rfl rfl ?_
              refine xi_iconst (pc' := 2) (v := 0) kc_16_1 rfl rfl ?_
              refine xi_putfield (pc' := 5) (fs' := [.int 0, .int u346, .ref 116, .ref 117, .ref 118, .ref 119, .ref 120, .ref 121, .ref 122, .ref 123, .ref 124, .ref 125, .ref 126, .ref 127, .ref 128, .ref 129, .int u347, .ref 130, .int u348, .ref 131, .ref 132, .ref 133, .ref 134, .int u349, .ref 135, .ref 136, .ref 137, .ref 138, .ref 139, .ref 140, .ref 141, .ref 142, .int u350, .int u351, .int u352, .ref 143, .ref 144, .ref 145, .ref 146, .ref 147, .ref 148, .int u353, .ref 149, .ref 150, .ref 151, .int u354, .ref 152, .ref 153, .ref 154, .ref 155, .ref 156, .ref 157, .ref 158, .ref 159, .int u355, .ref 160, .int u356, .ref 161, .ref 162, .ref 163, .ref 164, .int u357, .ref 165, .ref 166]) kc_16_2 rfl rfl rfl A359 rfl rfl rfl (Nat.le_of_ble_eq_true rfl) rfl (fun hh361 eh360 => ?_)
              have K362 := xk_pf (k := 0) (v := 0) K344 (xk_wf rfl) xD_115 A359 rfl (by first | omega | decide) (by first | omega | decide) eh360 rfl
              refine xi_iload_n (pc' := 6) (x := a8) kc_16_5 rfl rfl ?_
              refine xi_iconst (pc' := 7) (v := 0) kc_16_6 rfl rfl ?_
              refine xi_iconst (pc' := 8) (v := 1) kc_16_7 rfl rfl ?_
              refine xi_static (mj := 11) (as := [.int a8, .int 0, .int 1]) (st1 := []) (lv0 := [(0, .int a8), (1, .int 0), (2, .int 1)]) kc_16_8 rfl rfl (Nat.le_of_ble_eq_true rfl) rfl rfl (Nat.le_of_ble_eq_true rfl) (hJ _ _ _ _ (by decide)) (xm_le ml_11 rfl) rfl ?_
              refine xi_iload_n (pc' := 1) (x := a8) kc_11_0 rfl rfl ?_
              refine xi_iload_n (pc' := 2) (x := 0) kc_11_1 rfl rfl ?_
              refine xi_cmf (pc' := 5) kc_11_2 rfl (xc_lt_f (X := a8.toInt) (Y := 0) rfl (by decide) (by omega)) ?_
              refine xi_iload_n (pc' := 6) (x := a8) kc_11_5 rfl rfl ?_
              refine xi_iload_n (pc' := 7) (x := 1) kc_11_6 rfl rfl ?_
              refine xi_cmf (pc' := 10) kc_11_7 rfl (xc_gt_f (X := a8.toInt) (Y := 1) rfl (by decide) (by omega)) ?_
              refine xi_iconst (pc' := 11) (v := 1) kc_11_10 rfl rfl ?_
              refine xi_goto (pc' := 15) kc_11_11 rfl ?_
              refine xi_ireturn kc_11_15 mr_11 rfl ?_
              show xw J ov 99 16 (11, [(0, .ref 115), (1, .int a6), (2, .int a8), (3, .int a10)], [.int 1], hh361) _
              refine xi_ift (pc' := 21) kc_16_11 rfl rfl ?_
              refine xi_iload_n (pc' := 22) (x := a6) kc_16_21 rfl rfl ?_
              refine xi_iff (pc' := 25) kc_16_22 rfl (xc_lt_f (X := a6.toInt) (Y := 0) rfl (by decide) (by omega)) ?_
              refine xi_iload_n (pc' := 26) (x := a10) kc_16_25 rfl rfl ?_
              refine xi_iload_n (pc' := 27) (x := a8) kc_16_26 rfl rfl ?_
              refine xi_iff (pc' := 30) kc_16_27 rfl (xc_ne_f (X := a8.toInt) (Y := 0) rfl (by decide) (by omega)) ?_
              refine xi_bipush (pc' := 32) (v := (-20)) kc_16_30 rfl rfl ?_
              refine xi_goto (pc' := 36) kc_16_32 rfl ?_
              refine xi_cmt (pc' := 46) kc_16_36 rfl (xc_ge_t (X := a10.toInt) (Y := (-20)) rfl (by decide) (by omega)) ?_
              refine xi_iload_n (pc' := 47) (x := a6) kc_16_46 rfl rfl ?_
              refine xi_sipush (pc' := 50) (v := 599) kc_16_47 rfl rfl ?_
              refine xi_cmf (pc' := 53) kc_16_50 rfl (xc_gt_f (X := a6.toInt) (Y := 599) rfl (by decide) (by omega)) ?_
              refine xi_iload_n (pc' := 54) (x := a10) kc_16_53 rfl rfl ?_
              refine xi_iload_n (pc' := 55) (x := a8) kc_16_54 rfl rfl ?_
              refine xi_iff (pc' := 58) kc_16_55 rfl (xc_ne_f (X := a8.toInt) (Y := 0) rfl (by decide) (by omega)) ?_
              refine xi_bipush (pc' := 60) (v := 30) kc_16_58 rfl rfl ?_
              refine xi_goto (pc' := 65) kc_16_60 rfl ?_
              refine xi_cmf (pc' := 68) kc_16_65 rfl (xc_le_f (X := a10.toInt) (Y := 30) rfl (by decide) (by omega)) ?_
              refine xi_iload_n (pc' := 69) (x := a10) kc_16_68 rfl rfl ?_
              refine xi_bipush (pc' := 71) (v := 99) kc_16_69 rfl rfl ?_
              refine xi_cmf (pc' := 74) kc_16_71 rfl (xc_eq_f (X := a10.toInt) (Y := 99) rfl (by decide) (by omega)) ?_
              refine xi_aload_n (pc' := 75) (x := 115) kc_16_74 rfl rfl ?_
              refine xi_bipush (pc' := 77) (v := (-6)) kc_16_75 rfl rfl ?_
              refine xi_virtual (mj := 17) (as := [.int (-6)]) (st1 := []) (lv0 := [(0, .ref 115), (1, .int (-6))]) kc_16_77 rfl rfl rfl rfl rfl eh360.1 (Nat.le_of_ble_eq_true rfl) (hJ _ _ _ _ (by decide)) (xm_le ml_17 rfl) rfl ?_
              refine xi_aload_n (pc' := 1) (x := 115) kc_17_0 rfl rfl ?_
              refine xi_getfield (pc' := 4) (v := .ref 140) kc_17_1 rfl rfl rfl eh360.1 rfl ?_
              refine xi_iload_n (pc' := 5) (x := (-6)) kc_17_4 rfl rfl ?_
              refine xi_ineg (pc' := 6) (v := 6) kc_17_5 rfl rfl ?_
              refine xi_dup2 (pc' := 7) kc_17_6 rfl ⟨rfl, rfl⟩ ?_
              obtain ⟨y363, A363, hy363, ry363⟩ := xk_arr K.1 xD_140
              obtain ⟨v364, ev364, bv364, dv364⟩ := xj_get hy363 ry363 (i := 6) (by decide) (by decide)
              have A365 := ((eh360.2.1 140 (by decide)).trans ((eh343.2.1 140 (by decide)).trans A363))
              refine xi_iaload (pc' := 8) (v := v364) kc_17_7 rfl A365 (by decide) rfl (xi_in (by decide) (by rw [hy363]; decide)) ev364 ?_
              refine xi_iconst (pc' := 9) (v := 1) kc_17_8 rfl rfl ?_
              obtain ⟨v366, ev366⟩ : ∃ q : Int32, (v364 : Int32) + 1 = q := ⟨_, rfl⟩
              have rv366 := xc_rng v366
              refine xi_iadd (pc' := 10) (v := v366) kc_17_9 rfl ev366 ?_
              obtain ⟨y367, s367, hy367, ry367⟩ := xj_set (v := v366) hy363 ry363 6 (by first | omega | decide) (by first | omega | decide)
              refine xi_iastore (pc' := 11) (x' := y367) kc_17_10 rfl A365 rfl (xi_in (by decide) (by rw [hy363]; decide)) s367 (fun hh367 eh367 => ?_)
              have K368 := xk_pa K362 (xk_wa rfl) xD_140 hy367 ry367 eh367
              refine xi_ldc (pc' := 13) (v := 1000000000) kc_17_11 rfl rfl ?_
              refine xi_iload_n (pc' := 14) (x := (-6)) kc_17_13 rfl rfl ?_
              refine xi_isub (pc' := 15) (v := 1000000006) kc_17_14 rfl rfl ?_
              refine xi_ireturn kc_17_15 mr_17 rfl ?_
              show xw J ov 99 16 (80, [(0, .ref 115), (1, .int a6), (2, .int a8), (3, .int a10)], [.int 1000000006], hh367) _
              refine xi_ireturn kc_16_80 mr_16 rfl ?_
              show xw J ov 100 195 (334, [(4, .int x4), (3, .ref 167), (2, .ref 115), (1, .ref 0), (0, .ref 1000000)], [.int 1000000006, .int 1000000006], hh367) _
              refine xi_cmt (pc' := 1501) kc_195_334 rfl rfl ?_
              obtain ⟨v369, ev369⟩ : ∃ q : Int32, x4 + 6 = q := ⟨_, rfl⟩
              have zv369 : v369.toInt = (x4.toInt + 6) := by rw [← ev369]; exact (xz_add (X := x4.toInt) (Y := 6) rfl (by decide) (by omega) (by omega)).trans (by omega)
              refine xi_iinc (pc' := 1504) (x := x4) (v := v369) (lv' := [(4, .int v369), (3, .ref 167), (2, .ref 115), (1, .ref 0), (0, .ref 1000000)]) kc_195_1501 rfl rfl ev369 rfl (xm_lt ml_195 rfl) ?_
              refine xi_goto (pc' := 23) kc_195_1504 rfl ?_
              have A370 := ((eh367.2.1 6 (by decide)).trans ((eh360.2.1 6 (by decide)).trans ((eh343.2.1 6 (by decide)).trans A1)))
              have A371 := ((eh367.2.1 123 (by decide)).trans ((eh360.2.1 123 (by decide)).trans ((eh343.2.1 123 (by decide)).trans A2)))
              have A372 := ((eh367.2.1 9 (by decide)).trans ((eh360.2.1 9 (by decide)).trans ((eh343.2.1 9 (by decide)).trans A3)))
              have A373 := ((eh367.2.1 124 (by decide)).trans ((eh360.2.1 124 (by decide)).trans ((eh343.2.1 124 (by decide)).trans A4)))
              exact kk v369 hh367 (by omega) K368 ⟨(xE_mk A370 A371 H0), (xE_mk A372 A373 H1)⟩
      · refine xi_cmf (pc' := 51) kc_95_48 rfl (xc_ge_f (X := a10.toInt) (Y := (-20)) rfl (by decide) (by omega)) ?_
        refine xi_aload_n (pc' := 52) (x := 0) kc_95_51 rfl rfl ?_
        refine xi_bipush (pc' := 54) (v := (-4)) kc_95_52 rfl rfl ?_
        refine xi_virtual (mj := 96) (as := [.int (-4)]) (st1 := []) (lv0 := [(0, .ref 0), (1, .int (-4))]) kc_95_54 rfl rfl rfl rfl rfl A13 (Nat.le_of_ble_eq_true rfl) (hJ _ _ _ _ (by decide)) (xm_le ml_96 rfl) rfl ?_
        refine xi_ldc_w (pc' := 3) (v := 1000000000) kc_96_0 rfl rfl ?_
        refine xi_aload_n (pc' := 4) (x := 0) kc_96_3 rfl rfl ?_
        refine xi_iload_n (pc' := 5) (x := (-4)) kc_96_4 rfl rfl ?_
        refine xi_virtual (mj := 90) (as := [.int (-4)]) (st1 := [.int 1000000000]) (lv0 := [(0, .ref 0), (1, .int (-4))]) kc_96_5 rfl rfl rfl rfl rfl A13 (Nat.le_of_ble_eq_true rfl) (hJ _ _ _ _ (by decide)) (xm_le ml_90 rfl) rfl ?_
        refine xi_iload_n (pc' := 1) (x := (-4)) kc_90_0 rfl rfl ?_
        refine xi_ineg (pc' := 2) (v := 4) kc_90_1 rfl rfl ?_
        refine xi_istore_n (pc' := 3) (lv' := [(2, .int 4), (0, .ref 0), (1, .int (-4))]) kc_90_2 rfl rfl (xm_lt ml_90 rfl) ?_
        refine xi_iload_n (pc' := 4) (x := 4) kc_90_3 rfl rfl ?_
        refine xi_iff (pc' := 7) kc_90_4 rfl rfl ?_
        refine xi_iload_n (pc' := 8) (x := 4) kc_90_7 rfl rfl ?_
        refine xi_aload_n (pc' := 9) (x := 0) kc_90_8 rfl rfl ?_
        refine xi_getfield (pc' := 12) (v := .ref 94) kc_90_9 rfl rfl rfl A13 rfl ?_
        obtain ⟨y374, A374, hy374, ry374⟩ := xk_arr K.1 xD_94
        refine xi_arraylength (pc' := 13) (n := 7) (v := 7) kc_90_12 rfl (xl_lenI (by decide) (by decide) A374 hy374) rfl ?_
        refine xi_cmf (pc' := 16) kc_90_13 rfl rfl ?_
        refine xi_aload_n (pc' := 17) (x := 0) kc_90_16 rfl rfl ?_
        refine xi_getfield (pc' := 20) (v := .ref 94) kc_90_17 rfl rfl rfl A13 rfl ?_
        refine xi_iload_n (pc' := 21) (x := 4) kc_90_20 rfl rfl ?_
        refine xi_dup2 (pc' := 22) kc_90_21 rfl ⟨rfl, rfl⟩ ?_
        obtain ⟨v375, ev375, bv375, dv375⟩ := xj_get hy374 ry374 (i := 4) (by decide) (by decide)
        refine xi_iaload (pc' := 23) (v := v375) kc_90_22 rfl A374 (by decide) rfl (xi_in (by decide) (by rw [hy374]; decide)) ev375 ?_
        refine xi_iconst (pc' := 24) (v := 1) kc_90_23 rfl rfl ?_
        obtain ⟨v376, ev376⟩ : ∃ q : Int32, (v375 : Int32) + 1 = q := ⟨_, rfl⟩
        have rv376 := xc_rng v376
        refine xi_iadd (pc' := 25) (v := v376) kc_90_24 rfl ev376 ?_
        obtain ⟨y377, s377, hy377, ry377⟩ := xj_set (v := v376) hy374 ry374 4 (by first | omega | decide) (by first | omega | decide)
        refine xi_iastore (pc' := 26) (x' := y377) kc_90_25 rfl A374 rfl (xi_in (by decide) (by rw [hy374]; decide)) s377 (fun hh377 eh377 => ?_)
        have K378 := xk_pa K (xk_wa rfl) xD_94 hy377 ry377 eh377
        refine xi_iload_n (pc' := 27) (x := (-4)) kc_90_26 rfl rfl ?_
        refine xi_ireturn kc_90_27 mr_90 rfl ?_
        show xw J ov 98 96 (8, [(0, .ref 0), (1, .int (-4))], [.int (-4), .int 1000000000], hh377) _
        refine xi_isub (pc' := 9) (v := 1000000004) kc_96_8 rfl rfl ?_
        refine xi_ireturn kc_96_9 mr_96 rfl ?_
        show xw J ov 99 95 (57, [(5, .int 30), (4, .int (-20)), (0, .ref 0), (1, .int a6), (2, .int a8), (3, .int a10)], [.int 1000000004], hh377) _
        refine xi_ireturn kc_95_57 mr_95 rfl ?_
        show xw J ov 100 195 (312, [(4, .int x4), (3, .ref 167), (2, .ref 115), (1, .ref 0), (0, .ref 1000000)], [.int 1000000004], hh377) _
        refine xi_aload_n (pc' := 313) (x := 115) kc_195_312 rfl rfl ?_
        refine xi_aload_n (pc' := 314) (x := 1000000) kc_195_313 rfl rfl ?_
        refine xi_iload (pc' := 316) (x := x4) kc_195_314 rfl rfl ?_
        refine xi_iconst (pc' := 317) (v := 1) kc_195_316 rfl rfl ?_
        refine xi_iadd (pc' := 318) (v := v5) kc_195_317 rfl ev5 ?_
        refine xi_ialoadO (pc' := 319) (v := a6) kc_195_318 rfl (by decide) hov0 (xi_in (by omega) (by omega)) ea6 ?_
        refine xi_aload_n (pc' := 320) (x := 1000000) kc_195_319 rfl rfl ?_
        refine xi_iload (pc' := 322) (x := x4) kc_195_320 rfl rfl ?_
        refine xi_iconst (pc' := 323) (v := 2) kc_195_322 rfl rfl ?_
        refine xi_iadd (pc' := 324) (v := v7) kc_195_323 rfl ev7 ?_
        refine xi_ialoadO (pc' := 325) (v := a8) kc_195_324 rfl (by decide) hov0 (xi_in (by omega) (by omega)) ea8 ?_
        refine xi_aload_n (pc' := 326) (x := 1000000) kc_195_325 rfl rfl ?_
        refine xi_iload (pc' := 328) (x := x4) kc_195_326 rfl rfl ?_
        refine xi_iconst (pc' := 329) (v := 3) kc_195_328 rfl rfl ?_
        refine xi_iadd (pc' := 330) (v := v9) kc_195_329 rfl ev9 ?_
        refine xi_ialoadO (pc' := 331) (v := a10) kc_195_330 rfl (by decide) hov0 (xi_in (by omega) (by omega)) ea10 ?_
        obtain ⟨u379, u380, u381, u382, u383, u384, u385, u386, u387, u388, u389, u390, u391, bu379, bu380, bu381, bu382, bu383, bu384, bu385, bu386, bu387, bu388, bu389, bu390, bu391, A392⟩ := xq_115 K.1
        have A393 := ((eh377.2.1 115 (by decide)).trans A392)
        refine xi_virtual (mj := 16) (as := [.int a6, .int a8, .int a10]) (st1 := [.int 1000000004]) (lv0 := [(0, .ref 115), (1, .int a6), (2, .int a8), (3, .int a10)]) kc_195_331 rfl rfl rfl rfl rfl A393 (Nat.le_of_ble_eq_true rfl) (hJ _ _ _ _ (by decide)) (xm_le ml_16 rfl) rfl ?_
        refine xi_aload_n (pc' := 1) (x := 115) kc_16_0 rfl rfl ?_
        refine xi_iconst (pc' := 2) (v := 0) kc_16_1 rfl rfl ?_
        refine xi_putfield (pc' := 5) (fs' := [.int 0, .int u380, .ref 116, .ref 117, .ref 118, .ref 119, .ref 120, .ref 121, .ref 122, .ref 123, .ref 124, .ref 125, .ref 126, .ref 127, .ref 128, .ref 129, .int u381, .ref 130, .int u382, .ref 131, .ref 132, .ref 133, .ref 134, .int u383, .ref 135, .ref 136, .ref 137, .ref 138, .ref 139, .ref 140, .ref 141, .ref 142, .int u384, .int u385, .int u386, .ref 143, .ref 144, .ref 145, .ref 146, .ref 147, .ref 148, .int u387, .ref 149, .ref 150, .ref 151, .int u388, .ref 152, .ref 153, .ref 154, .ref 155, .ref 156, .ref 157, .ref 158, .ref 159, .int u389, .ref 160, .int u390, .ref 161, .ref 162, .ref 163, .ref 164, .int u391, .ref 165, .ref 166]) kc_16_2 rfl rfl rfl A393 rfl rfl rfl (Nat.le_of_ble_eq_true rfl) rfl (fun hh395 eh394 => ?_)
        have K396 := xk_pf (k := 0) (v := 0) K378 (xk_wf rfl) xD_115 A393 rfl (by first | omega | decide) (by first | omega | decide) eh394 rfl
        refine xi_iload_n (pc' := 6) (x := a8) kc_16_5 rfl rfl ?_
        refine xi_iconst (pc' := 7) (v := 0) kc_16_6 rfl rfl ?_
        refine xi_iconst (pc' := 8) (v := 1) kc_16_7 rfl rfl ?_
        refine xi_static (mj := 11) (as := [.int a8, .int 0, .int 1]) (st1 := []) (lv0 := [(0, .int a8), (1, .int 0), (2, .int 1)]) kc_16_8 rfl rfl (Nat.le_of_ble_eq_true rfl) rfl rfl (Nat.le_of_ble_eq_true rfl) (hJ _ _ _ _ (by decide)) (xm_le ml_11 rfl) rfl ?_
        refine xi_iload_n (pc' := 1) (x := a8) kc_11_0 rfl rfl ?_
        refine xi_iload_n (pc' := 2) (x := 0) kc_11_1 rfl rfl ?_
        refine xi_cmf (pc' := 5) kc_11_2 rfl (xc_lt_f (X := a8.toInt) (Y := 0) rfl (by decide) (by omega)) ?_
        refine xi_iload_n (pc' := 6) (x := a8) kc_11_5 rfl rfl ?_
        refine xi_iload_n (pc' := 7) (x := 1) kc_11_6 rfl rfl ?_
        refine xi_cmf (pc' := 10) kc_11_7 rfl (xc_gt_f (X := a8.toInt) (Y := 1) rfl (by decide) (by omega)) ?_
        refine xi_iconst (pc' := 11) (v := 1) kc_11_10 rfl rfl ?_
        refine xi_goto (pc' := 15) kc_11_11 rfl ?_
        refine xi_ireturn kc_11_15 mr_11 rfl ?_
        show xw J ov 99 16 (11, [(0, .ref 115), (1, .int a6), (2, .int a8), (3, .int a10)], [.int 1], hh395) _
        refine xi_ift (pc' := 21) kc_16_11 rfl rfl ?_
        refine xi_iload_n (pc' := 22) (x := a6) kc_16_21 rfl rfl ?_
        refine xi_iff (pc' := 25) kc_16_22 rfl (xc_lt_f (X := a6.toInt) (Y := 0) rfl (by decide) (by omega)) ?_
        refine xi_iload_n (pc' := 26) (x := a10) kc_16_25 rfl rfl ?_
        refine xi_iload_n (pc' := 27) (x := a8) kc_16_26 rfl rfl ?_
        refine xi_iff (pc' := 30) kc_16_27 rfl (xc_ne_f (X := a8.toInt) (Y := 0) rfl (by decide) (by omega)) ?_
        refine xi_bipush (pc' := 32) (v := (-20)) kc_16_30 rfl rfl ?_
        refine xi_goto (pc' := 36) kc_16_32 rfl ?_
        refine xi_cmf (pc' := 39) kc_16_36 rfl (xc_ge_f (X := a10.toInt) (Y := (-20)) rfl (by decide) (by omega)) ?_
        refine xi_aload_n (pc' := 40) (x := 115) kc_16_39 rfl rfl ?_
        refine xi_bipush (pc' := 42) (v := (-4)) kc_16_40 rfl rfl ?_
        refine xi_virtual (mj := 17) (as := [.int (-4)]) (st1 := []) (lv0 := [(0, .ref 115), (1, .int (-4))]) kc_16_42 rfl rfl rfl rfl rfl eh394.1 (Nat.le_of_ble_eq_true rfl) (hJ _ _ _ _ (by decide)) (xm_le ml_17 rfl) rfl ?_
        refine xi_aload_n (pc' := 1) (x := 115) kc_17_0 rfl rfl ?_
        refine xi_getfield (pc' := 4) (v := .ref 140) kc_17_1 rfl rfl rfl eh394.1 rfl ?_
        refine xi_iload_n (pc' := 5) (x := (-4)) kc_17_4 rfl rfl ?_
        refine xi_ineg (pc' := 6) (v := 4) kc_17_5 rfl rfl ?_
        refine xi_dup2 (pc' := 7) kc_17_6 rfl ⟨rfl, rfl⟩ ?_
        obtain ⟨y397, A397, hy397, ry397⟩ := xk_arr K.1 xD_140
        obtain ⟨v398, ev398, bv398, dv398⟩ := xj_get hy397 ry397 (i := 4) (by decide) (by decide)
        have A399 := ((eh394.2.1 140 (by decide)).trans ((eh377.2.1 140 (by decide)).trans A397))
        refine xi_iaload (pc' := 8) (v := v398) kc_17_7 rfl A399 (by decide) rfl (xi_in (by decide) (by rw [hy397]; decide)) ev398 ?_
        refine xi_iconst (pc' := 9) (v := 1) kc_17_8 rfl rfl ?_
        obtain ⟨v400, ev400⟩ : ∃ q : Int32, (v398 : Int32) + 1 = q := ⟨_, rfl⟩
        have rv400 := xc_rng v400
        refine xi_iadd (pc' := 10) (v := v400) kc_17_9 rfl ev400 ?_
        obtain ⟨y401, s401, hy401, ry401⟩ := xj_set (v := v400) hy397 ry397 4 (by first | omega | decide) (by first | omega | decide)
        refine xi_iastore (pc' := 11) (x' := y401) kc_17_10 rfl A399 rfl (xi_in (by decide) (by rw [hy397]; decide)) s401 (fun hh401 eh401 => ?_)
        have K402 := xk_pa K396 (xk_wa rfl) xD_140 hy401 ry401 eh401
        refine xi_ldc (pc' := 13) (v := 1000000000) kc_17_11 rfl rfl ?_
        refine xi_iload_n (pc' := 14) (x := (-4)) kc_17_13 rfl rfl ?_
        refine xi_isub (pc' := 15) (v := 1000000004) kc_17_14 rfl rfl ?_
        refine xi_ireturn kc_17_15 mr_17 rfl ?_
        show xw J ov 99 16 (45, [(0, .ref 115), (1, .int a6), (2, .int a8), (3, .int a10)], [.int 1000000004], hh401) _
        refine xi_ireturn kc_16_45 mr_16 rfl ?_
        show xw J ov 100 195 (334, [(4, .int x4), (3, .ref 167), (2, .ref 115), (1, .ref 0), (0, .ref 1000000)], [.int 1000000004, .int 1000000004], hh401) _
        refine xi_cmt (pc' := 1501) kc_195_334 rfl rfl ?_
        obtain ⟨v403, ev403⟩ : ∃ q : Int32, x4 + 6 = q := ⟨_, rfl⟩
        have zv403 : v403.toInt = (x4.toInt + 6) := by rw [← ev403]; exact (xz_add (X := x4.toInt) (Y := 6) rfl (by decide) (by omega) (by omega)).trans (by omega)
        refine xi_iinc (pc' := 1504) (x := x4) (v := v403) (lv' := [(4, .int v403), (3, .ref 167), (2, .ref 115), (1, .ref 0), (0, .ref 1000000)]) kc_195_1501 rfl rfl ev403 rfl (xm_lt ml_195 rfl) ?_
        refine xi_goto (pc' := 23) kc_195_1504 rfl ?_
        have A404 := ((eh401.2.1 6 (by decide)).trans ((eh394.2.1 6 (by decide)).trans ((eh377.2.1 6 (by decide)).trans A1)))
        have A405 := ((eh401.2.1 123 (by decide)).trans ((eh394.2.1 123 (by decide)).trans ((eh377.2.1 123 (by decide)).trans A2)))
        have A406 := ((eh401.2.1 9 (by decide)).trans ((eh394.2.1 9 (by decide)).trans ((eh377.2.1 9 (by decide)).trans A3)))
        have A407 := ((eh401.2.1 124 (by decide)).trans ((eh394.2.1 124 (by decide)).trans ((eh377.2.1 124 (by decide)).trans A4)))
        exact kk v403 hh401 (by omega) K402 ⟨(xE_mk A404 A405 H0), (xE_mk A406 A407 H1)⟩
  · refine xi_iff (pc' := 4) kc_95_1 rfl (xc_eq_f (X := a8.toInt) (Y := 0) rfl (by decide) (by omega)) ?_
    refine xi_iload_n (pc' := 5) (x := a8) kc_95_4 rfl rfl ?_
    refine xi_iconst (pc' := 6) (v := 1) kc_95_5 rfl rfl ?_
    by_cases c408 : a8.toInt = 1
    · refine xi_cmt (pc' := 16) kc_95_6 rfl (xc_eq_t (X := a8.toInt) (Y := 1) rfl (by decide) (by omega)) ?_
      refine xi_iload_n (pc' := 17) (x := a8) kc_95_16 rfl rfl ?_
      refine xi_ift (pc' := 25) kc_95_17 rfl (xc_ne_t (X := a8.toInt) (Y := 0) rfl (by decide) (by omega)) ?_
      refine xi_iconst (pc' := 26) (v := 0) kc_95_25 rfl rfl ?_
      refine xi_istore (pc' := 28) (lv' := [(4, .int 0), (0, .ref 0), (1, .int a6), (2, .int a8), (3, .int a10)]) kc_95_26 rfl rfl (xm_lt ml_95 rfl) ?_
      refine xi_iload_n (pc' := 29) (x := a8) kc_95_28 rfl rfl ?_
      refine xi_ift (pc' := 37) kc_95_29 rfl (xc_ne_t (X := a8.toInt) (Y := 0) rfl (by decide) (by omega)) ?_
      refine xi_bipush (pc' := 39) (v := 20) kc_95_37 rfl rfl ?_
      refine xi_istore (pc' := 41) (lv' := [(5, .int 20), (4, .int 0), (0, .ref 0), (1, .int a6), (2, .int a8), (3, .int a10)]) kc_95_39 rfl rfl (xm_lt ml_95 rfl) ?_
      refine xi_iload_n (pc' := 42) (x := a6) kc_95_41 rfl rfl ?_
      by_cases c409 : a6.toInt < 0
      · refine xi_ift (pc' := 51) kc_95_42 rfl (xc_lt_t (X := a6.toInt) (Y := 0) rfl (by decide) (by omega)) ?_
        refine xi_aload_n (pc' := 52) (x := 0) kc_95_51 rfl rfl ?_
        refine xi_bipush (pc' := 54) (v := (-4)) kc_95_52 rfl rfl ?_
        refine xi_virtual (mj := 96) (as := [.int (-4)]) (st1 := []) (lv0 := [(0, .ref 0), (1, .int (-4))]) kc_95_54 rfl rfl rfl rfl rfl A13 (Nat.le_of_ble_eq_true rfl) (hJ _ _ _ _ (by decide)) (xm_le ml_96 rfl) rfl ?_
        refine xi_ldc_w (pc' := 3) (v := 1000000000) kc_96_0 rfl rfl ?_
        refine xi_aload_n (pc' := 4) (x := 0) kc_96_3 rfl rfl ?_
        refine xi_iload_n (pc' := 5) (x := (-4)) kc_96_4 rfl rfl ?_
        refine xi_virtual (mj := 90) (as := [.int (-4)]) (st1 := [.int 1000000000]) (lv0 := [(0, .ref 0), (1, .int (-4))]) kc_96_5 rfl rfl rfl rfl rfl A13 (Nat.le_of_ble_eq_true rfl) (hJ _ _ _ _ (by decide)) (xm_le ml_90 rfl) rfl ?_
        refine xi_iload_n (pc' := 1) (x := (-4)) kc_90_0 rfl rfl ?_
        refine xi_ineg (pc' := 2) (v := 4) kc_90_1 rfl rfl ?_
        refine xi_istore_n (pc' := 3) (lv' := [(2, .int 4), (0, .ref 0), (1, .int (-4))]) kc_90_2 rfl rfl (xm_lt ml_90 rfl) ?_
        refine xi_iload_n (pc' := 4) (x := 4) kc_90_3 rfl rfl ?_
        refine xi_iff (pc' := 7) kc_90_4 rfl rfl ?_
        refine xi_iload_n (pc' := 8) (x := 4) kc_90_7 rfl rfl ?_
        refine xi_aload_n (pc' := 9) (x := 0) kc_90_8 rfl rfl ?_
        refine xi_getfield (pc' := 12) (v := .ref 94) kc_90_9 rfl rfl rfl A13 rfl ?_
        obtain ⟨y410, A410, hy410, ry410⟩ := xk_arr K.1 xD_94
        refine xi_arraylength (pc' := 13) (n := 7) (v := 7) kc_90_12 rfl (xl_lenI (by decide) (by decide) A410 hy410) rfl ?_
        refine xi_cmf (pc' := 16) kc_90_13 rfl rfl ?_
        refine xi_aload_n (pc' := 17) (x := 0) kc_90_16 rfl rfl ?_
        refine xi_getfield (pc' := 20) (v := .ref 94) kc_90_17 rfl rfl rfl A13 rfl ?_
        refine xi_iload_n (pc' := 21) (x := 4) kc_90_20 rfl rfl ?_
        refine xi_dup2 (pc' := 22) kc_90_21 rfl ⟨rfl, rfl⟩ ?_
        obtain ⟨v411, ev411, bv411, dv411⟩ := xj_get hy410 ry410 (i := 4) (by decide) (by decide)
        refine xi_iaload (pc' := 23) (v := v411) kc_90_22 rfl A410 (by decide) rfl (xi_in (by decide) (by rw [hy410]; decide)) ev411 ?_
        refine xi_iconst (pc' := 24) (v := 1) kc_90_23 rfl rfl ?_
        obtain ⟨v412, ev412⟩ : ∃ q : Int32, (v411 : Int32) + 1 = q := ⟨_, rfl⟩
        have rv412 := xc_rng v412
        refine xi_iadd (pc' := 25) (v := v412) kc_90_24 rfl ev412 ?_
        obtain ⟨y413, s413, hy413, ry413⟩ := xj_set (v := v412) hy410 ry410 4 (by first | omega | decide) (by first | omega | decide)
        refine xi_iastore (pc' := 26) (x' := y413) kc_90_25 rfl A410 rfl (xi_in (by decide) (by rw [hy410]; decide)) s413 (fun hh413 eh413 => ?_)
        have K414 := xk_pa K (xk_wa rfl) xD_94 hy413 ry413 eh413
        refine xi_iload_n (pc' := 27) (x := (-4)) kc_90_26 rfl rfl ?_
        refine xi_ireturn kc_90_27 mr_90 rfl ?_
        show xw J ov 98 96 (8, [(0, .ref 0), (1, .int (-4))], [.int (-4), .int 1000000000], hh413) _
        refine xi_isub (pc' := 9) (v := 1000000004) kc_96_8 rfl rfl ?_
        refine xi_ireturn kc_96_9 mr_96 rfl ?_
        show xw J ov 99 95 (57, [(5, .int 20), (4, .int 0), (0, .ref 0), (1, .int a6), (2, .int a8), (3, .int a10)], [.int 1000000004], hh413) _
        refine xi_ireturn kc_95_57 mr_95 rfl ?_
        show xw J ov 100 195 (312, [(4, .int x4), (3, .ref 167), (2, .ref 115), (1, .ref 0), (0, .ref 1000000)], [.int 1000000004], hh413) _
        refine xi_aload_n (pc' := 313) (x := 115) kc_195_312 rfl rfl ?_
        refine xi_aload_n (pc' := 314) (x := 1000000) kc_195_313 rfl rfl ?_
        refine xi_iload (pc' := 316) (x := x4) kc_195_314 rfl rfl ?_
        refine xi_iconst (pc' := 317) (v := 1) kc_195_316 rfl rfl ?_
        refine xi_iadd (pc' := 318) (v := v5) kc_195_317 rfl ev5 ?_
        refine xi_ialoadO (pc' := 319) (v := a6) kc_195_318 rfl (by decide) hov0 (xi_in (by omega) (by omega)) ea6 ?_
        refine xi_aload_n (pc' := 320) (x := 1000000) kc_195_319 rfl rfl ?_
        refine xi_iload (pc' := 322) (x := x4) kc_195_320 rfl rfl ?_
        refine xi_iconst (pc' := 323) (v := 2) kc_195_322 rfl rfl ?_
        refine xi_iadd (pc' := 324) (v := v7) kc_195_323 rfl ev7 ?_
        refine xi_ialoadO (pc' := 325) (v := a8) kc_195_324 rfl (by decide) hov0 (xi_in (by omega) (by omega)) ea8 ?_
        refine xi_aload_n (pc' := 326) (x := 1000000) kc_195_325 rfl rfl ?_
        refine xi_iload (pc' := 328) (x := x4) kc_195_326 rfl rfl ?_
        refine xi_iconst (pc' := 329) (v := 3) kc_195_328 rfl rfl ?_
        refine xi_iadd (pc' := 330) (v := v9) kc_195_329 rfl ev9 ?_
        refine xi_ialoadO (pc' := 331) (v := a10) kc_195_330 rfl (by decide) hov0 (xi_in (by omega) (by omega)) ea10 ?_
        obtain ⟨u415, u416, u417, u418, u419, u420, u421, u422, u423, u424, u425, u426, u427, bu415, bu416, bu417, bu418, bu419, bu420, bu421, bu422, bu423, bu424, bu425, bu426, bu427, A428⟩ := xq_115 K.1
        have A429 := ((eh413.2.1 115 (by decide)).trans A428)
        refine xi_virtual (mj := 16) (as := [.int a6, .int a8, .int a10]) (st1 := [.int 1000000004]) (lv0 := [(0, .ref 115), (1, .int a6), (2, .int a8), (3, .int a10)]) kc_195_331 rfl rfl rfl rfl rfl A429 (Nat.le_of_ble_eq_true rfl) (hJ _ _ _ _ (by decide)) (xm_le ml_16 rfl) rfl ?_
        refine xi_aload_n (pc' := 1) (x := 115) kc_16_0 rfl rfl ?_
        refine xi_iconst (pc' := 2) (v := 0) kc_16_1 rfl rfl ?_
        refine xi_putfield (pc' := 5) (fs' := [.int 0, .int u416, .ref 116, .ref 117, .ref 118, .ref 119, .ref 120, .ref 121, .ref 122, .ref 123, .ref 124, .ref 125, .ref 126, .ref 127, .ref 128, .ref 129, .int u417, .ref 130, .int u418, .ref 131, .ref 132, .ref 133, .ref 134, .int u419, .ref 135, .ref 136, .ref 137, .ref 138, .ref 139, .ref 140, .ref 141, .ref 142, .int u420, .int u421, .int u422, .ref 143, .ref 144, .ref 145, .ref 146, .ref 147, .ref 148, .int u423, .ref 149, .ref 150, .ref 151, .int u424, .ref 152, .ref 153, .ref 154, .ref 155, .ref 156, .ref 157, .ref 158, .ref 159, .int u425, .ref 160, .int u426, .ref 161, .ref 162, .ref 163, .ref 164, .int u427, .ref 165, .ref 166]) kc_16_2 rfl rfl rfl A429 rfl rfl rfl (Nat.le_of_ble_eq_true rfl) rfl (fun hh431 eh430 => ?_)
        have K432 := xk_pf (k := 0) (v := 0) K414 (xk_wf rfl) xD_115 A429 rfl (by first | omega | decide) (by first | omega | decide) eh430 rfl
        refine xi_iload_n (pc' := 6) (x := a8) kc_16_5 rfl rfl ?_
        refine xi_iconst (pc' := 7) (v := 0) kc_16_6 rfl rfl ?_
        refine xi_iconst (pc' := 8) (v := 1) kc_16_7 rfl rfl ?_
        refine xi_static (mj := 11) (as := [.int a8, .int 0, .int 1]) (st1 := []) (lv0 := [(0, .int a8), (1, .int 0), (2, .int 1)]) kc_16_8 rfl rfl (Nat.le_of_ble_eq_true rfl) rfl rfl (Nat.le_of_ble_eq_true rfl) (hJ _ _ _ _ (by decide)) (xm_le ml_11 rfl) rfl ?_
        refine xi_iload_n (pc' := 1) (x := a8) kc_11_0 rfl rfl ?_
        refine xi_iload_n (pc' := 2) (x := 0) kc_11_1 rfl rfl ?_
        refine xi_cmf (pc' := 5) kc_11_2 rfl (xc_lt_f (X := a8.toInt) (Y := 0) rfl (by decide) (by omega)) ?_
        refine xi_iload_n (pc' := 6) (x := a8) kc_11_5 rfl rfl ?_
        refine xi_iload_n (pc' := 7) (x := 1) kc_11_6 rfl rfl ?_
        refine xi_cmf (pc' := 10) kc_11_7 rfl (xc_gt_f (X := a8.toInt) (Y := 1) rfl (by decide) (by omega)) ?_
        refine xi_iconst (pc' := 11) (v := 1) kc_11_10 rfl rfl ?_
        refine xi_goto (pc' := 15) kc_11_11 rfl ?_
        refine xi_ireturn kc_11_15 mr_11 rfl ?_
        show xw J ov 99 16 (11, [(0, .ref 115), (1, .int a6), (2, .int a8), (3, .int a10)], [.int 1], hh431) _
        refine xi_ift (pc' := 21) kc_16_11 rfl rfl ?_
        refine xi_iload_n (pc' := 22) (x := a6) kc_16_21 rfl rfl ?_
        refine xi_ift (pc' := 39) kc_16_22 rfl (xc_lt_t (X := a6.toInt) (Y := 0) rfl (by decide) (by omega)) ?_
        refine xi_aload_n (pc' := 40) (x := 115) kc_16_39 rfl rfl ?_
        refine xi_bipush (pc' := 42) (v := (-4)) kc_16_40 rfl rfl ?_
        refine xi_virtual (mj := 17) (as := [.int (-4)]) (st1 := []) (lv0 := [(0, .ref 115), (1, .int (-4))]) kc_16_42 rfl rfl rfl rfl rfl eh430.1 (Nat.le_of_ble_eq_true rfl) (hJ _ _ _ _ (by decide)) (xm_le ml_17 rfl) rfl ?_
        refine xi_aload_n (pc' := 1) (x := 115) kc_17_0 rfl rfl ?_
        refine xi_getfield (pc' := 4) (v := .ref 140) kc_17_1 rfl rfl rfl eh430.1 rfl ?_
        refine xi_iload_n (pc' := 5) (x := (-4)) kc_17_4 rfl rfl ?_
        refine xi_ineg (pc' := 6) (v := 4) kc_17_5 rfl rfl ?_
        refine xi_dup2 (pc' := 7) kc_17_6 rfl ⟨rfl, rfl⟩ ?_
        obtain ⟨y433, A433, hy433, ry433⟩ := xk_arr K.1 xD_140
        obtain ⟨v434, ev434, bv434, dv434⟩ := xj_get hy433 ry433 (i := 4) (by decide) (by decide)
        have A435 := ((eh430.2.1 140 (by decide)).trans ((eh413.2.1 140 (by decide)).trans A433))
        refine xi_iaload (pc' := 8) (v := v434) kc_17_7 rfl A435 (by decide) rfl (xi_in (by decide) (by rw [hy433]; decide)) ev434 ?_
        refine xi_iconst (pc' := 9) (v := 1) kc_17_8 rfl rfl ?_
        obtain ⟨v436, ev436⟩ : ∃ q : Int32, (v434 : Int32) + 1 = q := ⟨_, rfl⟩
        have rv436 := xc_rng v436
        refine xi_iadd (pc' := 10) (v := v436) kc_17_9 rfl ev436 ?_
        obtain ⟨y437, s437, hy437, ry437⟩ := xj_set (v := v436) hy433 ry433 4 (by first | omega | decide) (by first | omega | decide)
        refine xi_iastore (pc' := 11) (x' := y437) kc_17_10 rfl A435 rfl (xi_in (by decide) (by rw [hy433]; decide)) s437 (fun hh437 eh437 => ?_)
        have K438 := xk_pa K432 (xk_wa rfl) xD_140 hy437 ry437 eh437
        refine xi_ldc (pc' := 13) (v := 1000000000) kc_17_11 rfl rfl ?_
        refine xi_iload_n (pc' := 14) (x := (-4)) kc_17_13 rfl rfl ?_
        refine xi_isub (pc' := 15) (v := 1000000004) kc_17_14 rfl rfl ?_
        refine xi_ireturn kc_17_15 mr_17 rfl ?_
        show xw J ov 99 16 (45, [(0, .ref 115), (1, .int a6), (2, .int a8), (3, .int a10)], [.int 1000000004], hh437) _
        refine xi_ireturn kc_16_45 mr_16 rfl ?_
        show xw J ov 100 195 (334, [(4, .int x4), (3, .ref 167), (2, .ref 115), (1, .ref 0), (0, .ref 1000000)], [.int 1000000004, .int 1000000004], hh437) _
        refine xi_cmt (pc' := 1501) kc_195_334 rfl rfl ?_
        obtain ⟨v439, ev439⟩ : ∃ q : Int32, x4 + 6 = q := ⟨_, rfl⟩
        have zv439 : v439.toInt = (x4.toInt + 6) := by rw [← ev439]; exact (xz_add (X := x4.toInt) (Y := 6) rfl (by decide) (by omega) (by omega)).trans (by omega)
        refine xi_iinc (pc' := 1504) (x := x4) (v := v439) (lv' := [(4, .int v439), (3, .ref 167), (2, .ref 115), (1, .ref 0), (0, .ref 1000000)]) kc_195_1501 rfl rfl ev439 rfl (xm_lt ml_195 rfl) ?_
        refine xi_goto (pc' := 23) kc_195_1504 rfl ?_
        have A440 := ((eh437.2.1 6 (by decide)).trans ((eh430.2.1 6 (by decide)).trans ((eh413.2.1 6 (by decide)).trans A1)))
        have A441 := ((eh437.2.1 123 (by decide)).trans ((eh430.2.1 123 (by decide)).trans ((eh413.2.1 123 (by decide)).trans A2)))
        have A442 := ((eh437.2.1 9 (by decide)).trans ((eh430.2.1 9 (by decide)).trans ((eh413.2.1 9 (by decide)).trans A3)))
        have A443 := ((eh437.2.1 124 (by decide)).trans ((eh430.2.1 124 (by decide)).trans ((eh413.2.1 124 (by decide)).trans A4)))
        exact kk v439 hh437 (by omega) K438 ⟨(xE_mk A440 A441 H0), (xE_mk A442 A443 H1)⟩
      · refine xi_iff (pc' := 45) kc_95_42 rfl (xc_lt_f (X := a6.toInt) (Y := 0) rfl (by decide) (by omega)) ?_
        refine xi_iload_n (pc' := 46) (x := a10) kc_95_45 rfl rfl ?_
        refine xi_iload (pc' := 48) (x := 0) kc_95_46 rfl rfl ?_
        by_cases c444 : 0 ≤ a10.toInt
        · refine xi_cmt (pc' := 58) kc_95_48 rfl (xc_ge_t (X := a10.toInt) (Y := 0) rfl (by decide) (by omega)) ?_
          refine xi_iload_n (pc' := 59) (x := a6) kc_95_58 rfl rfl ?_
          refine xi_sipush (pc' := 62) (v := 600) kc_95_59 rfl rfl ?_
          by_cases c445 : 600 ≤ a6.toInt
          · refine xi_cmt (pc' := 77) kc_95_62 rfl (xc_ge_t (X := a6.toInt) (Y := 600) rfl (by decide) (by omega)) ?_
            refine xi_aload_n (pc' := 78) (x := 0) kc_95_77 rfl rfl ?_
            refine xi_bipush (pc' := 80) (v := (-6)) kc_95_78 rfl rfl ?_
            refine xi_virtual (mj := 96) (as := [.int (-6)]) (st1 := []) (lv0 := [(0, .ref 0), (1, .int (-6))]) kc_95_80 rfl rfl rfl rfl rfl A13 (Nat.le_of_ble_eq_true rfl) (hJ _ _ _ _ (by decide)) (xm_le ml_96 rfl) rfl ?_
            refine xi_ldc_w (pc' := 3) (v := 1000000000) kc_96_0 rfl rfl ?_
            refine xi_aload_n (pc' := 4) (x := 0) kc_96_3 rfl rfl ?_
            refine xi_iload_n (pc' := 5) (x := (-6)) kc_96_4 rfl rfl ?_
            refine xi_virtual (mj := 90) (as := [.int (-6)]) (st1 := [.int 1000000000]) (lv0 := [(0, .ref 0), (1, .int (-6))]) kc_96_5 rfl rfl rfl rfl rfl A13 (Nat.le_of_ble_eq_true rfl) (hJ _ _ _ _ (by decide)) (xm_le ml_90 rfl) rfl ?_
            refine xi_iload_n (pc' := 1) (x := (-6)) kc_90_0 rfl rfl ?_
            refine xi_ineg (pc' := 2) (v := 6) kc_90_1 rfl rfl ?_
            refine xi_istore_n (pc' := 3) (lv' := [(2, .int 6), (0, .ref 0), (1, .int (-6))]) kc_90_2 rfl rfl (xm_lt ml_90 rfl) ?_
            refine xi_iload_n (pc' := 4) (x := 6) kc_90_3 rfl rfl ?_
            refine xi_iff (pc' := 7) kc_90_4 rfl rfl ?_
            refine xi_iload_n (pc' := 8) (x := 6) kc_90_7 rfl rfl ?_
            refine xi_aload_n (pc' := 9) (x := 0) kc_90_8 rfl rfl ?_
            refine xi_getfield (pc' := 12) (v := .ref 94) kc_90_9 rfl rfl rfl A13 rfl ?_
            obtain ⟨y446, A446, hy446, ry446⟩ := xk_arr K.1 xD_94
            refine xi_arraylength (pc' := 13) (n := 7) (v := 7) kc_90_12 rfl (xl_lenI (by decide) (by decide) A446 hy446) rfl ?_
            refine xi_cmf (pc' := 16) kc_90_13 rfl rfl ?_
            refine xi_aload_n (pc' := 17) (x := 0) kc_90_16 rfl rfl ?_
            refine xi_getfield (pc' := 20) (v := .ref 94) kc_90_17 rfl rfl rfl A13 rfl ?_
            refine xi_iload_n (pc' := 21) (x := 6) kc_90_20 rfl rfl ?_
            refine xi_dup2 (pc' := 22) kc_90_21 rfl ⟨rfl, rfl⟩ ?_
            obtain ⟨v447, ev447, bv447, dv447⟩ := xj_get hy446 ry446 (i := 6) (by decide) (by decide)
            refine xi_iaload (pc' := 23) (v := v447) kc_90_22 rfl A446 (by decide) rfl (xi_in (by decide) (by rw [hy446]; decide)) ev447 ?_
            refine xi_iconst (pc' := 24) (v := 1) kc_90_23 rfl rfl ?_
            obtain ⟨v448, ev448⟩ : ∃ q : Int32, (v447 : Int32) + 1 = q := ⟨_, rfl⟩
            have rv448 := xc_rng v448
            refine xi_iadd (pc' := 25) (v := v448) kc_90_24 rfl ev448 ?_
            obtain ⟨y449, s449, hy449, ry449⟩ := xj_set (v := v448) hy446 ry446 6 (by first | omega | decide) (by first | omega | decide)
            refine xi_iastore (pc' := 26) (x' := y449) kc_90_25 rfl A446 rfl (xi_in (by decide) (by rw [hy446]; decide)) s449 (fun hh449 eh449 => ?_)
            have K450 := xk_pa K (xk_wa rfl) xD_94 hy449 ry449 eh449
            refine xi_iload_n (pc' := 27) (x := (-6)) kc_90_26 rfl rfl ?_
            refine xi_ireturn kc_90_27 mr_90 rfl ?_
            show xw J ov 98 96 (8, [(0, .ref 0), (1, .int (-6))], [.int (-6), .int 1000000000], hh449) _
            refine xi_isub (pc' := 9) (v := 1000000006) kc_96_8 rfl rfl ?_
            refine xi_ireturn kc_96_9 mr_96 rfl ?_
            show xw J ov 99 95 (83, [(5, .int 20), (4, .int 0), (0, .ref 0), (1, .int a6), (2, .int a8), (3, .int a10)], [.int 1000000006], hh449) _
            refine xi_ireturn kc_95_83 mr_95 rfl ?_
            show xw J ov 100 195 (312, [(4, .int x4), (3, .ref 167), (2, .ref 115), (1, .ref 0), (0, .ref 1000000)], [.int 1000000006], hh449) _
            refine xi_aload_n (pc' := 313) (x := 115) kc_195_312 rfl rfl ?_
            refine xi_aload_n (pc' := 314) (x := 1000000) kc_195_313 rfl rfl ?_
            refine xi_iload (pc' := 316) (x := x4) kc_195_314 rfl rfl ?_
            refine xi_iconst (pc' := 317) (v := 1) kc_195_316 rfl rfl ?_
            refine xi_iadd (pc' := 318) (v := v5) kc_195_317 rfl ev5 ?_
            refine xi_ialoadO (pc' := 319) (v := a6) kc_195_318 rfl (by decide) hov0 (xi_in (by omega) (by omega)) ea6 ?_
            refine xi_aload_n (pc' := 320) (x := 1000000) kc_195_319 rfl rfl ?_
            refine xi_iload (pc' := 322) (x := x4) kc_195_320 rfl rfl ?_
            refine xi_iconst (pc' := 323) (v := 2) kc_195_322 rfl rfl ?_
            refine xi_iadd (pc' := 324) (v := v7) kc_195_323 rfl ev7 ?_
            refine xi_ialoadO (pc' := 325) (v := a8) kc_195_324 rfl (by decide) hov0 (xi_in (by omega) (by omega)) ea8 ?_
            refine xi_aload_n (pc' := 326) (x := 1000000) kc_195_325 rfl rfl ?_
            refine xi_iload (pc' := 328) (x := x4) kc_195_326 rfl rfl ?_
            refine xi_iconst (pc' := 329) (v := 3) kc_195_328 rfl rfl ?_
            refine xi_iadd (pc' := 330) (v := v9) kc_195_329 rfl ev9 ?_
            refine xi_ialoadO (pc' := 331) (v := a10) kc_195_330 rfl (by decide) hov0 (xi_in (by omega) (by omega)) ea10 ?_
            obtain ⟨u451, u452, u453, u454, u455, u456, u457, u458, u459, u460, u461, u462, u463, bu451, bu452, bu453, bu454, bu455, bu456, bu457, bu458, bu459, bu460, bu461, bu462, bu463, A464⟩ := xq_115 K.1
            have A465 := ((eh449.2.1 115 (by decide)).trans A464)
            refine xi_virtual (mj := 16) (as := [.int a6, .int a8, .int a10]) (st1 := [.int 1000000006]) (lv0 := [(0, .ref 115), (1, .int a6), (2, .int a8), (3, .int a10)]) kc_195_331 rfl rfl rfl rfl rfl A465 (Nat.le_of_ble_eq_true rfl) (hJ _ _ _ _ (by decide)) (xm_le ml_16 rfl) rfl ?_
            refine xi_aload_n (pc' := 1) (x := 115) kc_16_0 rfl rfl ?_
            refine xi_iconst (pc' := 2) (v := 0) kc_16_1 rfl rfl ?_
            refine xi_putfield (pc' := 5) (fs' := [.int 0, .int u452, .ref 116, .ref 117, .ref 118, .ref 119, .ref 120, .ref 121, .ref 122, .ref 123, .ref 124, .ref 125, .ref 126, .ref 127, .ref 128, .ref 129, .int u453, .ref 130, .int u454, .ref 131, .ref 132, .ref 133, .ref 134, .int u455, .ref 135, .ref 136, .ref 137, .ref 138, .ref 139, .ref 140, .ref 141, .ref 142, .int u456, .int u457, .int u458, .ref 143, .ref 144, .ref 145, .ref 146, .ref 147, .ref 148, .int u459, .ref 149, .ref 150, .ref 151, .int u460, .ref 152, .ref 153, .ref 154, .ref 155, .ref 156, .ref 157, .ref 158, .ref 159, .int u461, .ref 160, .int u462, .ref 161, .ref 162, .ref 163, .ref 164, .int u463, .ref 165, .ref 166]) kc_16_2 rfl rfl rfl A465 rfl rfl rfl (Nat.le_of_ble_eq_true rfl) rfl (fun hh467 eh466 => ?_)
            have K468 := xk_pf (k := 0) (v := 0) K450 (xk_wf rfl) xD_115 A465 rfl (by first | omega | decide) (by first | omega | decide) eh466 rfl
            refine xi_iload_n (pc' := 6) (x := a8) kc_16_5 rfl rfl ?_
            refine xi_iconst (pc' := 7) (v := 0) kc_16_6 rfl rfl ?_
            refine xi_iconst (pc' := 8) (v := 1) kc_16_7 rfl rfl ?_
            refine xi_static (mj := 11) (as := [.int a8, .int 0, .int 1]) (st1 := []) (lv0 := [(0, .int a8), (1, .int 0), (2, .int 1)]) kc_16_8 rfl rfl (Nat.le_of_ble_eq_true rfl) rfl rfl (Nat.le_of_ble_eq_true rfl) (hJ _ _ _ _ (by decide)) (xm_le ml_11 rfl) rfl ?_
            refine xi_iload_n (pc' := 1) (x := a8) kc_11_0 rfl rfl ?_
            refine xi_iload_n (pc' := 2) (x := 0) kc_11_1 rfl rfl ?_
            refine xi_cmf (pc' := 5) kc_11_2 rfl (xc_lt_f (X := a8.toInt) (Y := 0) rfl (by decide) (by omega)) ?_
            refine xi_iload_n (pc' := 6) (x := a8) kc_11_5 rfl rfl ?_
            refine xi_iload_n (pc' := 7) (x := 1) kc_11_6 rfl rfl ?_
            refine xi_cmf (pc' := 10) kc_11_7 rfl (xc_gt_f (X := a8.toInt) (Y := 1) rfl (by decide) (by omega)) ?_
            refine xi_iconst (pc' := 11) (v := 1) kc_11_10 rfl rfl ?_
            refine xi_goto (pc' := 15) kc_11_11 rfl ?_
            refine xi_ireturn kc_11_15 mr_11 rfl ?_
            show xw J ov 99 16 (11, [(0, .ref 115), (1, .int a6), (2, .int a8), (3, .int a10)], [.int 1], hh467) _
            refine xi_ift (pc' := 21) kc_16_11 rfl rfl ?_
            refine xi_iload_n (pc' := 22) (x := a6) kc_16_21 rfl rfl ?_
            refine xi_iff (pc' := 25) kc_16_22 rfl (xc_lt_f (X := a6.toInt) (Y := 0) rfl (by decide) (by omega)) ?_
            refine xi_iload_n (pc' := 26) (x := a10) kc_16_25 rfl rfl ?_
            refine xi_iload_n (pc' := 27) (x := a8) kc_16_26 rfl rfl ?_
            refine xi_ift (pc' := 35) kc_16_27 rfl (xc_ne_t (X := a8.toInt) (Y := 0) rfl (by decide) (by omega)) ?_
            refine xi_iconst (pc' := 36) (v := 0) kc_16_35 rfl rfl ?_
            refine xi_cmt (pc' := 46) kc_16_36 rfl (xc_ge_t (X := a10.toInt) (Y := 0) rfl (by decide) (by omega)) ?_
            refine xi_iload_n (pc' := 47) (x := a6) kc_16_46 rfl rfl ?_
            refine xi_sipush (pc' := 50) (v := 599) kc_16_47 rfl rfl ?_
            refine xi_cmt (pc' := 74) kc_16_50 rfl (xc_gt_t (X := a6.toInt) (Y := 599) rfl (by decide) (by omega)) ?_
            refine xi_aload_n (pc' := 75) (x := 115) kc_16_74 rfl rfl ?_
            refine xi_bipush (pc' := 77) (v := (-6)) kc_16_75 rfl rfl ?_
            refine xi_virtual (mj := 17) (as := [.int (-6)]) (st1 := []) (lv0 := [(0, .ref 115), (1, .int (-6))]) kc_16_77 rfl rfl rfl rfl rfl eh466.1 (Nat.le_of_ble_eq_true rfl) (hJ _ _ _ _ (by decide)) (xm_le ml_17 rfl) rfl ?_
            refine xi_aload_n (pc' := 1) (x := 115) kc_17_0 rfl rfl ?_
            refine xi_getfield (pc' := 4) (v := .ref 140) kc_17_1 rfl rfl rfl eh466.1 rfl ?_
            refine xi_iload_n (pc' := 5) (x := (-6)) kc_17_4 rfl rfl ?_
            refine xi_ineg (pc' := 6) (v := 6) kc_17_5 rfl rfl ?_
            refine xi_dup2 (pc' := 7) kc_17_6 rfl ⟨rfl, rfl⟩ ?_
            obtain ⟨y469, A469, hy469, ry469⟩ := xk_arr K.1 xD_140
            obtain ⟨v470, ev470, bv470, dv470⟩ := xj_get hy469 ry469 (i := 6) (by decide) (by decide)
            have A471 := ((eh466.2.1 140 (by decide)).trans ((eh449.2.1 140 (by decide)).trans A469))
            refine xi_iaload (pc' := 8) (v := v470) kc_17_7 rfl A471 (by decide) rfl (xi_in (by decide) (by rw [hy469]; decide)) ev470 ?_
            refine xi_iconst (pc' := 9) (v := 1) kc_17_8 rfl rfl ?_
            obtain ⟨v472, ev472⟩ : ∃ q : Int32, (v470 : Int32) + 1 = q := ⟨_, rfl⟩
            have rv472 := xc_rng v472
            refine xi_iadd (pc' := 10) (v := v472) kc_17_9 rfl ev472 ?_
            obtain ⟨y473, s473, hy473, ry473⟩ := xj_set (v := v472) hy469 ry469 6 (by first | omega | decide) (by first | omega | decide)
            refine xi_iastore (pc' := 11) (x' := y473) kc_17_10 rfl A471 rfl (xi_in (by decide) (by rw [hy469]; decide)) s473 (fun hh473 eh473 => ?_)
            have K474 := xk_pa K468 (xk_wa rfl) xD_140 hy473 ry473 eh473
            refine xi_ldc (pc' := 13) (v := 1000000000) kc_17_11 rfl rfl ?_
            refine xi_iload_n (pc' := 14) (x := (-6)) kc_17_13 rfl rfl ?_
            refine xi_isub (pc' := 15) (v := 1000000006) kc_17_14 rfl rfl ?_
            refine xi_ireturn kc_17_15 mr_17 rfl ?_
            show xw J ov 99 16 (80, [(0, .ref 115), (1, .int a6), (2, .int a8), (3, .int a10)], [.int 1000000006], hh473) _
            refine xi_ireturn kc_16_80 mr_16 rfl ?_
            show xw J ov 100 195 (334, [(4, .int x4), (3, .ref 167), (2, .ref 115), (1, .ref 0), (0, .ref 1000000)], [.int 1000000006, .int 1000000006], hh473) _
            refine xi_cmt (pc' := 1501) kc_195_334 rfl rfl ?_
            obtain ⟨v475, ev475⟩ : ∃ q : Int32, x4 + 6 = q := ⟨_, rfl⟩
            have zv475 : v475.toInt = (x4.toInt + 6) := by rw [← ev475]; exact (xz_add (X := x4.toInt) (Y := 6) rfl (by decide) (by omega) (by omega)).trans (by omega)
            refine xi_iinc (pc' := 1504) (x := x4) (v := v475) (lv' := [(4, .int v475), (3, .ref 167), (2, .ref 115), (1, .ref 0), (0, .ref 1000000)]) kc_195_1501 rfl rfl ev475 rfl (xm_lt ml_195 rfl) ?_
            refine xi_goto (pc' := 23) kc_195_1504 rfl ?_
            have A476 := ((eh473.2.1 6 (by decide)).trans ((eh466.2.1 6 (by decide)).trans ((eh449.2.1 6 (by decide)).trans A1)))
            have A477 := ((eh473.2.1 123 (by decide)).trans ((eh466.2.1 123 (by decide)).trans ((eh449.2.1 123 (by decide)).trans A2)))
            have A478 := ((eh473.2.1 9 (by decide)).trans ((eh466.2.1 9 (by decide)).trans ((eh449.2.1 9 (by decide)).trans A3)))
            have A479 := ((eh473.2.1 124 (by decide)).trans ((eh466.2.1 124 (by decide)).trans ((eh449.2.1 124 (by decide)).trans A4)))
            exact kk v475 hh473 (by omega) K474 ⟨(xE_mk A476 A477 H0), (xE_mk A478 A479 H1)⟩
          · refine xi_cmf (pc' := 65) kc_95_62 rfl (xc_ge_f (X := a6.toInt) (Y := 600) rfl (by decide) (by omega)) ?_
            refine xi_iload_n (pc' := 66) (x := a10) kc_95_65 rfl rfl ?_
            refine xi_iload (pc' := 68) (x := 20) kc_95_66 rfl rfl ?_
            by_cases c480 : a10.toInt ≤ 20
            · refine xi_cmt (pc' := 84) kc_95_68 rfl (xc_le_t (X := a10.toInt) (Y := 20) rfl (by decide) (by omega)) ?_
              refine xi_aload_n (pc' := 85) (x := 0) kc_95_84 rfl rfl ?_
              refine xi_getfield (pc' := 88) (v := .ref 66) kc_95_85 rfl rfl rfl A13 rfl ?_
              obtain ⟨u482, wl481, bu482, A483⟩ := xq_66 K.1
              refine xi_virtual (mj := 91) (as := []) (st1 := []) (lv0 := [(0, .ref 66)]) kc_95_88 rfl rfl rfl rfl rfl A483 (Nat.le_of_ble_eq_true rfl) (hJ _ _ _ _ (by decide)) (xm_le ml_91 rfl) rfl ?_
              refine xi_aload_n (pc' := 1) (x := 66) kc_91_0 rfl rfl ?_
              refine xi_lconst (pc' := 2) (v := 0) kc_91_1 rfl rfl ?_
              refine xi_putfield (pc' := 5) (fs' := [.ref 1, .ref 67, .ref 70, .ref 71, .ref 72, .ref 73, .ref 74, .long 0, .int u482]) kc_91_2 rfl rfl rfl A483 rfl rfl rfl (Nat.le_of_ble_eq_true rfl) rfl (fun hh485 eh484 => ?_)
              have K486 := xk_pl (k := 7) (v := 0) K (xk_wf rfl) xD_66 A483 rfl eh484 rfl
              refine xi_return kc_91_5 mr_91 ?_
              show xw J ov 99 95 (91, [(5, .int 20), (4, .int 0), (0, .ref 0), (1, .int a6), (2, .int a8), (3, .int a10)], [], hh485) _
              refine xi_aload_n (pc' := 92) (x := 0) kc_95_91 rfl rfl ?_
              have A487 := ((eh484.2.1 0 (by decide)).trans A13)
              refine xi_getfield (pc' := 95) (v := .ref 1) kc_95_92 rfl rfl rfl A487 rfl ?_
              refine xi_iload_n (pc' := 96) (x := a8) kc_95_95 rfl rfl ?_
              obtain ⟨u488, u489, bu488, bu489, A490⟩ := xq_1 K.1
              have A491 := ((eh484.2.1 1 (by decide)).trans A490)
              refine xi_virtual (mj := 97) (as := [.int a8]) (st1 := []) (lv0 := [(0, .ref 1), (1, .int a8)]) kc_95_96 rfl rfl rfl rfl rfl A491 (Nat.le_of_ble_eq_true rfl) (hJ _ _ _ _ (by decide)) (xm_le ml_97 rfl) rfl ?_
              refine xi_iload_n (pc' := 1) (x := a8) kc_97_0 rfl rfl ?_
              refine xi_ift (pc' := 11) kc_97_1 rfl (xc_ne_t (X := a8.toInt) (Y := 0) rfl (by decide) (by omega)) ?_
              refine xi_aload_n (pc' := 12) (x := 1) kc_97_11 rfl rfl ?_
              refine xi_getfield (pc' := 15) (v := .ref 8) kc_97_12 rfl rfl rfl A491 rfl ?_
              refine xi_areturn kc_97_15 (by rw [mr_97]; rfl) ?_
              show xw J ov 99 95 (99, [(5, .int 20), (4, .int 0), (0, .ref 0), (1, .int a6), (2, .int a8), (3, .int a10)], [.ref 8], hh485) _
              refine xi_iload_n (pc' := 100) (x := a6) kc_95_99 rfl rfl ?_
              refine xi_iload_n (pc' := 101) (x := a10) kc_95_100 rfl rfl ?_
              obtain ⟨u492, bu492, A493⟩ := xq_8 K.1
              have A494 := ((eh484.2.1 8 (by decide)).trans A493)
              refine xi_virtual (mj := 98) (as := [.int a6, .int a10]) (st1 := []) (lv0 := [(0, .ref 8), (1, .int a6), (2, .int a10)]) kc_95_101 rfl rfl rfl rfl rfl A494 (Nat.le_of_ble_eq_true rfl) (hJ _ _ _ _ (by decide)) (xm_le ml_98 rfl) rfl ?_
              refine xi_iload_n (pc' := 1) (x := a6) kc_98_0 rfl rfl ?_
              refine xi_iff (pc' := 4) kc_98_1 rfl (xc_lt_f (X := a6.toInt) (Y := 0) rfl (by decide) (by omega)) ?_
              refine xi_iload_n (pc' := 5) (x := a6) kc_98_4 rfl rfl ?_
              refine xi_aload_n (pc' := 6) (x := 8) kc_98_5 rfl rfl ?_
              refine xi_getfield (pc' := 9) (v := .ref 9) kc_98_6 rfl rfl rfl A494 rfl ?_
              have A495 := ((eh484.2.1 9 (by decide)).trans A3)
              refine xi_arraylength (pc' := 10) (n := 601) (v := 601) kc_98_9 rfl (xl_lenI (by decide) (by decide) A495 hy3) rfl ?_
              refine xi_cmt (pc' := 16) kc_98_10 rfl (xc_lt_t (X := a6.toInt) (Y := 601) rfl (by decide) (by omega)) ?_
              refine xi_aload_n (pc' := 17) (x := 8) kc_98_16 rfl rfl ?_
              refine xi_getfield (pc' := 20) (v := .ref 9) kc_98_17 rfl rfl rfl A494 rfl ?_
              refine xi_iload_n (pc' := 21) (x := a6) kc_98_20 rfl rfl ?_
              obtain ⟨v496, ev496, bv496, dv496⟩ := xj_get hy3 ry3 (i := a6) (by omega) (by omega)
              refine xi_iaload (pc' := 22) (v := v496) kc_98_21 rfl A495 (by decide) rfl (xi_in (by omega) (by rw [hy3]; omega)) ev496 ?_
              refine xi_istore_n (pc' := 23) (lv' := [(3, .int v496), (0, .ref 8), (1, .int a6), (2, .int a10)]) kc_98_22 rfl rfl (xm_lt ml_98 rfl) ?_
              refine xi_aload_n (pc' := 24) (x := 8) kc_98_23 rfl rfl ?_
              refine xi_getfield (pc' := 27) (v := .ref 9) kc_98_24 rfl rfl rfl A494 rfl ?_
              refine xi_iload_n (pc' := 28) (x := a6) kc_98_27 rfl rfl ?_
              refine xi_iload_n (pc' := 29) (x := a10) kc_98_28 rfl rfl ?_
              obtain ⟨y497, s497, hy497, ry497⟩ := xj_set (v := a10) hy3 ry3 a6 (by first | omega | decide) (by first | omega | decide)
              refine xi_iastore (pc' := 30) (x' := y497) kc_98_29 rfl A495 rfl (xi_in (by omega) (by rw [hy3]; omega)) s497 (fun hh497 eh497 => ?_)
              have K498 := xk_pa K486 (xk_wa rfl) xD_9 hy497 ry497 eh497
              refine xi_aload_n (pc' := 31) (x := 8) kc_98_30 rfl rfl ?_
              refine xi_iload_n (pc' := 32) (x := a6) kc_98_31 rfl rfl ?_
              refine xi_iconst (pc' := 33) (v := 1) kc_98_32 rfl rfl ?_
              obtain ⟨v499, ev499⟩ : ∃ q : Int32, a6 - 1 = q := ⟨_, rfl⟩
              have zv499 : v499.toInt = (a6.toInt + (-1)) := by rw [← ev499]; exact (xz_sub (X := a6.toInt) (Y := 1) rfl (by decide) (by omega) (by omega)).trans (by omega)
              refine xi_isub (pc' := 34) (v := v499) kc_98_33 rfl ev499 ?_
              have A500 := ((eh497.2.1 8 (by decide)).trans A494)
              refine xi_virtual (mj := 99) (as := [.int v499]) (st1 := []) (lv0 := [(0, .ref 8), (1, .int v499)]) kc_98_34 rfl rfl rfl rfl rfl A500 (Nat.le_of_ble_eq_true rfl) (hJ _ _ _ _ (by decide)) (xm_le ml_99 rfl) rfl ?_
              refine xi_iload_n (pc' := 1) (x := v499) kc_99_0 rfl rfl ?_
              by_cases c501 : (a6.toInt + (-1)) < 0
              · refine xi_ift (pc' := 13) kc_99_1 rfl (xc_lt_t (X := (a6.toInt + (-1))) (Y := 0) zv499 (by decide) (by omega)) ?_
                refine xi_aload_n (pc' := 14) (x := 8) kc_99_13 rfl rfl ?_
                refine xi_getfield (pc' := 17) (v := .int u492) kc_99_14 rfl rfl rfl A500 rfl ?_
                refine xi_goto (pc' := 26) kc_99_17 rfl ?_
                refine xi_ireturn kc_99_26 mr_99 rfl ?_
                show xw J ov 98 98 (37, [(3, .int v496), (0, .ref 8), (1, .int a6), (2, .int a10)], [.int u492], hh497) _
                refine xi_istore (pc' := 39) (lv' := [(4, .int u492), (3, .int v496), (0, .ref 8), (1, .int a6), (2, .int a10)]) kc_98_37 rfl rfl (xm_lt ml_98 rfl) ?_
                refine xi_iload_n (pc' := 40) (x := a6) kc_98_39 rfl rfl ?_
                refine xi_istore (pc' := 42) (lv' := [(5, .int a6), (4, .int u492), (3, .int v496), (0, .ref 8), (1, .int a6), (2, .int a10)]) kc_98_40 rfl rfl (xm_lt ml_98 rfl) ?_
                refine xw_lv (b := [(0, .ref 8), (3, .int v496), (4, .int u492), (5, .int a6)]) (lvS_cons (lvS_cons (lvS_cons (lvS_cons (lvS_nil (show ([5, 4, 3, 0, 1, 2] : List Nat).Nodup by decide)) rfl) rfl) rfl) rfl) ?_
                refine (lp_98_1 hJ hov1 hov2 (d := 97) (hb := hh497) (fun r502 hh503 K504 => ?_) 602) v496 u492 a6 hh497 (by first | omega | decide) (xk_re K498.1) (by omega)
                have br502 := xc_rng r502
                have A505 := ((eh497.2.1 6 (by decide)).trans ((eh484.2.1 6 (by decide)).trans A1))
                have A506 := ((eh497.2.1 123 (by decide)).trans ((eh484.2.1 123 (by decide)).trans A2))
                have A507 := ((eh497.2.1 124 (by decide)).trans ((eh484.2.1 124 (by decide)).trans A4))
                have A508 := ((eh497.2.1 0 (by decide)).trans A487)
                have K509 := xk_tr K498 K504 rfl
                have A510 := xk_eqa (q := 0) K504 rfl A505
                have A511 := xk_eqa (q := 0) K504 rfl A506
                have A512 := xk_eqa (q := 0) K504 rfl eh497.1
                have A513 := xk_eqa (q := 0) K504 rfl A507
                obtain ⟨u514, u515, bu514, bu515, A516⟩ := xq_0 K509.1
                have e517 : u12 = u515 := xk_eqi (q := 9) K504 rfl A508 A516 rfl rfl
                subst e517
                show xw J ov 99 95 (104, [(5, .int 20), (4, .int 0), (0, .ref 0), (1, .int a6), (2, .int a8), (3, .int a10)], [.int r502], hh503) _
                refine xi_ireturn kc_95_104 mr_95 rfl ?_
                show xw J ov 100 195 (312, [(4, .int x4), (3, .ref 167), (2, .ref 115), (1, .ref 0), (0, .ref 1000000)], [.int r502], hh503) _
                refine xi_aload_n (pc' := 313) (x := 115) kc_195_312 rfl rfl ?_
                refine xi_aload_n (pc' := 314) (x := 1000000) kc_195_313 rfl rfl ?_
                refine xi_iload (pc' := 316) (x := x4) kc_195_314 rfl rfl ?_
                refine xi_iconst (pc' := 317) (v := 1) kc_195_316 rfl rfl ?_
                refine xi_iadd (pc' := 318) (v := v5) kc_195_317 rfl ev5 ?_
                refine xi_ialoadO (pc' := 319) (v := a6) kc_195_318 rfl (by decide) hov0 (xi_in (by omega) (by omega)) ea6 ?_
                refine xi_aload_n (pc' := 320) (x := 1000000) kc_195_319 rfl rfl ?_
                refine xi_iload (pc' := 322) (x := x4) kc_195_320 rfl rfl ?_
                refine xi_iconst (pc' := 323) (v := 2) kc_195_322 rfl rfl ?_
                refine xi_iadd (pc' := 324) (v := v7) kc_195_323 rfl ev7 ?_
                refine xi_ialoadO (pc' := 325) (v := a8) kc_195_324 rfl (by decide) hov0 (xi_in (by omega) (by omega)) ea8 ?_
                refine xi_aload_n (pc' := 326) (x := 1000000) kc_195_325 rfl rfl ?_
                refine xi_iload (pc' := 328) (x := x4) kc_195_326 rfl rfl ?_
                refine xi_iconst (pc' := 329) (v := 3) kc_195_328 rfl rfl ?_
                refine xi_iadd (pc' := 330) (v := v9) kc_195_329 rfl ev9 ?_
                refine xi_ialoadO (pc' := 331) (v := a10) kc_195_330 rfl (by decide) hov0 (xi_in (by omega) (by omega)) ea10 ?_
                obtain ⟨u518, u519, u520, u521, u522, u523, u524, u525, u526, u527, u528, u529, u530, bu518, bu519, bu520, bu521, bu522, bu523, bu524, bu525, bu526, bu527, bu528, bu529, bu530, A531⟩ := xq_115 K509.1
                refine xi_virtual (mj := 16) (as := [.int a6, .int a8, .int a10]) (st1 := [.int r502]) (lv0 := [(0, .ref 115), (1, .int a6), (2, .int a8), (3, .int a10)]) kc_195_331 rfl rfl rfl rfl rfl A531 (Nat.le_of_ble_eq_true rfl) (hJ _ _ _ _ (by decide)) (xm_le ml_16 rfl) rfl ?_
                refine xi_aload_n (pc' := 1) (x := 115) kc_16_0 rfl rfl ?_
                refine xi_iconst (pc' := 2) (v := 0) kc_16_1 rfl rfl ?_
                refine xi_putfield (pc' := 5) (fs' := [.int 0, .int u519, .ref 116, .ref 117, .ref 118, .ref 119, .ref 120, .ref 121, .ref 122, .ref 123, .ref 124, .ref 125, .ref 126, .ref 127, .ref 128, .ref 129, .int u520, .ref 130, .int u521, .ref 131, .ref 132, .ref 133, .ref 134, .int u522, .ref 135, .ref 136, .ref 137, .ref 138, .ref 139, .ref 140, .ref 141, .ref 142, .int u523, .int u524, .int u525, .ref 143, .ref 144, .ref 145, .ref 146, .ref 147, .ref 148, .int u526, .ref 149, .ref 150, .ref 151, .int u527, .ref 152, .ref 153, .ref 154, .ref 155, .ref 156, .ref 157, .ref 158, .ref 159, .int u528, .ref 160, .int u529, .ref 161, .ref 162, .ref 163, .ref 164, .int u530, .ref 165, .ref 166]) kc_16_2 rfl rfl rfl A531 rfl rfl rfl (Nat.le_of_ble_eq_true rfl) rfl (fun hh533 eh532 => ?_)
                have K534 := xk_pf (k := 0) (v := 0) K509 (xk_wf rfl) xD_115 A531 rfl (by first | omega | decide) (by first | omega | decide) eh532 rfl
                refine xi_iload_n (pc' := 6) (x := a8) kc_16_5 rfl rfl ?_
                refine xi_iconst (pc' := 7) (v := 0) kc_16_6 rfl rfl ?_
                refine xi_iconst (pc' := 8) (v := 1) kc_16_7 rfl rfl ?_
                refine xi_static (mj := 11) (as := [.int a8, .int 0, .int 1]) (st1 := []) (lv0 := [(0, .int a8), (1, .int 0), (2, .int 1)]) kc_16_8 rfl rfl (Nat.le_of_ble_eq_true rfl) rfl rfl (Nat.le_of_ble_eq_true rfl) (hJ _ _ _ _ (by decide)) (xm_le ml_11 rfl) rfl ?_
                refine xi_iload_n (pc' := 1) (x := a8) kc_11_0 rfl rfl ?_
                refine xi_iload_n (pc' := 2) (x := 0) kc_11_1 rfl rfl ?_
                refine xi_cmf (pc' := 5) kc_11_2 rfl (xc_lt_f (X := a8.toInt) (Y := 0) rfl (by decide) (by omega)) ?_
                refine xi_iload_n (pc' := 6) (x := a8) kc_11_5 rfl rfl ?_
                refine xi_iload_n (pc' := 7) (x := 1) kc_11_6 rfl rfl ?_
                refine xi_cmf (pc' := 10) kc_11_7 rfl (xc_gt_f (X := a8.toInt) (Y := 1) rfl (by decide) (by omega)) ?_
                refine xi_iconst (pc' := 11) (v := 1) kc_11_10 rfl rfl ?_
                refine xi_goto (pc' := 15) kc_11_11 rfl ?_
                refine xi_ireturn kc_11_15 mr_11 rfl ?_
                show xw J ov 99 16 (11, [(0, .ref 115), (1, .int a6), (2, .int a8), (3, .int a10)], [.int 1], hh533) _
                refine xi_ift (pc' := 21) kc_16_11 rfl rfl ?_
                refine xi_iload_n (pc' := 22) (x := a6) kc_16_21 rfl rfl ?_
                refine xi_iff (pc' := 25) kc_16_22 rfl (xc_lt_f (X := a6.toInt) (Y := 0) rfl (by decide) (by omega)) ?_
                refine xi_iload_n (pc' := 26) (x := a10) kc_16_25 rfl rfl ?_
                refine xi_iload_n (pc' := 27) (x := a8) kc_16_26 rfl rfl ?_
                refine xi_ift (pc' := 35) kc_16_27 rfl (xc_ne_t (X := a8.toInt) (Y := 0) rfl (by decide) (by omega)) ?_
                refine xi_iconst (pc' := 36) (v := 0) kc_16_35 rfl rfl ?_
                refine xi_cmt (pc' := 46) kc_16_36 rfl (xc_ge_t (X := a10.toInt) (Y := 0) rfl (by decide) (by omega)) ?_
                refine xi_iload_n (pc' := 47) (x := a6) kc_16_46 rfl rfl ?_
                refine xi_sipush (pc' := 50) (v := 599) kc_16_47 rfl rfl ?_
                refine xi_cmf (pc' := 53) kc_16_50 rfl (xc_gt_f (X := a6.toInt) (Y := 599) rfl (by decide) (by omega)) ?_
                refine xi_iload_n (pc' := 54) (x := a10) kc_16_53 rfl rfl ?_
                refine xi_iload_n (pc' := 55) (x := a8) kc_16_54 rfl rfl ?_
                refine xi_ift (pc' := 63) kc_16_55 rfl (xc_ne_t (X := a8.toInt) (Y := 0) rfl (by decide) (by omega)) ?_
                refine xi_bipush (pc' := 65) (v := 20) kc_16_63 rfl rfl ?_
                refine xi_cmt (pc' := 81) kc_16_65 rfl (xc_le_t (X := a10.toInt) (Y := 20) rfl (by decide) (by omega)) ?_
                refine xi_iload_n (pc' := 82) (x := a8) kc_16_81 rfl rfl ?_
                refine xi_ift (pc' := 94) kc_16_82 rfl (xc_ne_t (X := a8.toInt) (Y := 0) rfl (by decide) (by omega)) ?_
                refine xi_aload_n (pc' := 95) (x := 115) kc_16_94 rfl rfl ?_
                refine xi_getfield (pc' := 98) (v := .ref 124) kc_16_95 rfl rfl rfl eh532.1 rfl ?_
                refine xi_iload_n (pc' := 99) (x := a6) kc_16_98 rfl rfl ?_
                have A535 := ((eh532.2.1 124 (by decide)).trans A513)
                refine xi_iaload (pc' := 100) (v := v496) kc_16_99 rfl A535 (by decide) rfl (xi_in (by omega) (by rw [hy4]; omega)) (xE_ld H1 (by first | omega | decide) (by first | omega | decide) (by omega) ev496) ?_
                refine xi_istore (pc' := 102) (lv' := [(4, .int v496), (0, .ref 115), (1, .int a6), (2, .int a8), (3, .int a10)]) kc_16_100 rfl rfl (xm_lt ml_16 rfl) ?_
                refine xi_aload_n (pc' := 103) (x := 115) kc_16_102 rfl rfl ?_
                refine xi_getfield (pc' := 106) (v := .ref 123) kc_16_103 rfl rfl rfl eh532.1 rfl ?_
                refine xi_iload_n (pc' := 107) (x := a6) kc_16_106 rfl rfl ?_
                refine xi_iload_n (pc' := 108) (x := a8) kc_16_107 rfl rfl ?_
                refine xi_ift (pc' := 115) kc_16_108 rfl (xc_ne_t (X := a8.toInt) (Y := 0) rfl (by decide) (by omega)) ?_
                refine xi_aload_n (pc' := 116) (x := 115) kc_16_115 rfl rfl ?_
                refine xi_getfield (pc' := 119) (v := .ref 123) kc_16_116 rfl rfl rfl eh532.1 rfl ?_
                refine xi_iload_n (pc' := 120) (x := a6) kc_16_119 rfl rfl ?_
                obtain ⟨v536, ev536, bv536, dv536⟩ := xj_get hy2 ry2 (i := a6) (by omega) (by omega)
                have A537 := ((eh532.2.1 123 (by decide)).trans A511)
                refine xi_iaload (pc' := 121) (v := v536) kc_16_120 rfl A537 (by decide) rfl (xi_in (by omega) (by rw [hy2]; omega)) ev536 ?_
                obtain ⟨y538, s538, hy538, ry538⟩ := xj_set (v := v536) hy2 ry2 a6 (by first | omega | decide) (by first | omega | decide)
                refine xi_iastore (pc' := 122) (x' := y538) kc_16_121 rfl A537 rfl (xi_in (by omega) (by rw [hy2]; omega)) s538 (fun hh538 eh538 => ?_)
                have K539 := xk_pa K534 (xk_wa rfl) xD_123 hy538 ry538 eh538
                refine xi_aload_n (pc' := 123) (x := 115) kc_16_122 rfl rfl ?_
                have A540 := ((eh538.2.1 115 (by decide)).trans eh532.1)
                refine xi_getfield (pc' := 126) (v := .ref 124) kc_16_123 rfl rfl rfl A540 rfl ?_
                refine xi_iload_n (pc' := 127) (x := a6) kc_16_126 rfl rfl ?_
                refine xi_iload_n (pc' := 128) (x := a8) kc_16_127 rfl rfl ?_
                refine xi_iconst (pc' := 129) (v := 1) kc_16_128 rfl rfl ?_
                refine xi_cmf (pc' := 132) kc_16_129 rfl (xc_ne_f (X := a8.toInt) (Y := 1) rfl (by decide) (by omega)) ?_
                refine xi_iload_n (pc' := 133) (x := a10) kc_16_132 rfl rfl ?_
                refine xi_goto (pc' := 142) kc_16_133 rfl ?_
                have A541 := ((eh538.2.1 124 (by decide)).trans A535)
                obtain ⟨y542, s542, hy542, ry542⟩ := xj_set (v := a10) hy4 ry4 a6 (by first | omega | decide) (by first | omega | decide)
                refine xi_iastore (pc' := 143) (x' := y542) kc_16_142 rfl A541 rfl (xi_in (by omega) (by rw [hy4]; omega)) s542 (fun hh542 eh542 => ?_)
                have K543 := xk_pa K539 (xk_wa rfl) xD_124 hy542 ry542 eh542
                refine xi_aload_n (pc' := 144) (x := 115) kc_16_143 rfl rfl ?_
                refine xi_iconst (pc' := 145) (v := 0) kc_16_144 rfl rfl ?_
                have A544 := ((eh542.2.1 115 (by decide)).trans A540)
                refine xi_putfield (pc' := 148) (fs' := [.int 0, .int u519, .ref 116, .ref 117, .ref 118, .ref 119, .ref 120, .ref 121, .ref 122, .ref 123, .ref 124, .ref 125, .ref 126, .ref 127, .ref 128, .ref 129, .int u520, .ref 130, .int u521, .ref 131, .ref 132, .ref 133, .ref 134, .int u522, .ref 135, .ref 136, .ref 137, .ref 138, .ref 139, .ref 140, .ref 141, .ref 142, .int u523, .int u524, .int u525, .ref 143, .ref 144, .ref 145, .ref 146, .ref 147, .ref 148, .int 0, .ref 149, .ref 150, .ref 151, .int u527, .ref 152, .ref 153, .ref 154, .ref 155, .ref 156, .ref 157, .ref 158, .ref 159, .int u528, .ref 160, .int u529, .ref 161, .ref 162, .ref 163, .ref 164, .int u530, .ref 165, .ref 166]) kc_16_145 rfl rfl rfl A544 rfl rfl rfl (Nat.le_of_ble_eq_true rfl) rfl (fun hh546 eh545 => ?_)
                have K547 := xk_pf (k := 41) (v := 0) K543 (xk_wf rfl) xD_115 A544 rfl (by first | omega | decide) (by first | omega | decide) eh545 rfl
                refine xi_iload (pc' := 150) (x := v496) kc_16_148 rfl rfl ?_
                refine xi_ireturn kc_16_150 mr_16 rfl ?_
                show xw J ov 100 195 (334, [(4, .int x4), (3, .ref 167), (2, .ref 115), (1, .ref 0), (0, .ref 1000000)], [.int v496, .int r502], hh546) _
                by_cases c548 : r502.toInt = v496.toInt
                · refine xi_cmt (pc' := 1501) kc_195_334 rfl (xc_eq_t (X := r502.toInt) (Y := v496.toInt) rfl rfl (by omega)) ?_
                  obtain ⟨v549, ev549⟩ : ∃ q : Int32, x4 + 6 = q := ⟨_, rfl⟩
                  have zv549 : v549.toInt = (x4.toInt + 6) := by rw [← ev549]; exact (xz_add (X := x4.toInt) (Y := 6) rfl (by decide) (by omega) (by omega)).trans (by omega)
                  refine xi_iinc (pc' := 1504) (x := x4) (v := v549) (lv' := [(4, .int v549), (3, .ref 167), (2, .ref 115), (1, .ref 0), (0, .ref 1000000)]) kc_195_1501 rfl rfl ev549 rfl (xm_lt ml_195 rfl) ?_
                  refine xi_goto (pc' := 23) kc_195_1504 rfl ?_
                  have A550 := ((eh545.2.1 6 (by decide)).trans ((eh542.2.1 6 (by decide)).trans ((eh538.2.1 6 (by decide)).trans ((eh532.2.1 6 (by decide)).trans A510))))
                  have A551 := ((eh545.2.1 123 (by decide)).trans ((eh542.2.1 123 (by decide)).trans eh538.1))
                  have A552 := ((eh545.2.1 9 (by decide)).trans ((eh542.2.1 9 (by decide)).trans ((eh538.2.1 9 (by decide)).trans ((eh532.2.1 9 (by decide)).trans A512))))
                  have A553 := ((eh545.2.1 124 (by decide)).trans eh542.1)
                  exact kk v549 hh546 (by omega) K547 ⟨(xE_mk A550 A551 (xE_id H0 ev536 s538)), (xE_mk A552 A553 (xE_set H1 (by first | omega | decide) (by omega) (by omega) (by omega) s497 s542))⟩
                · refine xi_cmf (pc' := 337) kc_195_334 rfl (xc_eq_f (X := r502.toInt) (Y := v496.toInt) rfl rfl (by omega)) ?_
                  refine xi_iconst (pc' := 338) (v := 0) kc_195_337 rfl rfl ?_
                  refine xi_ireturn kc_195_338 mr_195 rfl ?_
                  exfalso; omega
              · refine xi_iff (pc' := 4) kc_99_1 rfl (xc_lt_f (X := (a6.toInt + (-1))) (Y := 0) zv499 (by decide) (by omega)) ?_
                refine xi_iload_n (pc' := 5) (x := v499) kc_99_4 rfl rfl ?_
                refine xi_aload_n (pc' := 6) (x := 8) kc_99_5 rfl rfl ?_
                refine xi_getfield (pc' := 9) (v := .ref 10) kc_99_6 rfl rfl rfl A500 rfl ?_
                obtain ⟨y554, A554, hy554, ry554⟩ := xk_arr K.1 xD_10
                have A555 := ((eh497.2.1 10 (by decide)).trans ((eh484.2.1 10 (by decide)).trans A554))
                refine xi_arraylength (pc' := 10) (n := 601) (v := 601) kc_99_9 rfl (xl_lenI (by decide) (by decide) A555 hy554) rfl ?_
                refine xi_cmt (pc' := 20) kc_99_10 rfl (xc_lt_t (X := (a6.toInt + (-1))) (Y := 601) zv499 (by decide) (by omega)) ?_
                refine xi_aload_n (pc' := 21) (x := 8) kc_99_20 rfl rfl ?_
                refine xi_getfield (pc' := 24) (v := .ref 10) kc_99_21 rfl rfl rfl A500 rfl ?_
                refine xi_iload_n (pc' := 25) (x := v499) kc_99_24 rfl rfl ?_
                obtain ⟨v556, ev556, bv556, dv556⟩ := xj_get hy554 ry554 (i := v499) (by rw [zv499]; omega) (by rw [zv499]; omega)
                refine xi_iaload (pc' := 26) (v := v556) kc_99_25 rfl A555 (by decide) rfl (xi_in (by rw [zv499]; omega) (by rw [hy554]; rw [zv499]; omega)) ev556 ?_
                refine xi_ireturn kc_99_26 mr_99 rfl ?_
                show xw J ov 98 98 (37, [(3, .int v496), (0, .ref 8), (1, .int a6), (2, .int a10)], [.int v556], hh497) _
                refine xi_istore (pc' := 39) (lv' := [(4, .int v556), (3, .int v496), (0, .ref 8), (1, .int a6), (2, .int a10)]) kc_98_37 rfl rfl (xm_lt ml_98 rfl) ?_
                refine xi_iload_n (pc' := 40) (x := a6) kc_98_39 rfl rfl ?_
                refine xi_istore (pc' := 42) (lv' := [(5, .int a6), (4, .int v556), (3, .int v496), (0, .ref 8), (1, .int a6), (2, .int a10)]) kc_98_40 rfl rfl (xm_lt ml_98 rfl) ?_
                refine xw_lv (b := [(0, .ref 8), (3, .int v496), (4, .int v556), (5, .int a6)]) (lvS_cons (lvS_cons (lvS_cons (lvS_cons (lvS_nil (show ([5, 4, 3, 0, 1, 2] : List Nat).Nodup by decide)) rfl) rfl) rfl) rfl) ?_
                refine (lp_98_1 hJ hov1 hov2 (d := 97) (hb := hh497) (fun r557 hh558 K559 => ?_) 602) v496 v556 a6 hh497 (by first | omega | decide) (xk_re K498.1) (by omega)
                have br557 := xc_rng r557
                have A560 := ((eh497.2.1 6 (by decide)).trans ((eh484.2.1 6 (by decide)).trans A1))
                have A561 := ((eh497.2.1 123 (by decide)).trans ((eh484.2.1 123 (by decide)).trans A2))
                have A562 := ((eh497.2.1 124 (by decide)).trans ((eh484.2.1 124 (by decide)).trans A4))
                have A563 := ((eh497.2.1 0 (by decide)).trans A487)
                have K564 := xk_tr K498 K559 rfl
                have A565 := xk_eqa (q := 0) K559 rfl A560
                have A566 := xk_eqa (q := 0) K559 rfl A561
                have A567 := xk_eqa (q := 0) K559 rfl eh497.1
                have A568 := xk_eqa (q := 0) K559 rfl A562
                obtain ⟨u569, u570, bu569, bu570, A571⟩ := xq_0 K564.1
                have e572 : u12 = u570 := xk_eqi (q := 9) K559 rfl A563 A571 rfl rfl
                subst e572
                show xw J ov 99 95 (104, [(5, .int 20), (4, .int 0), (0, .ref 0), (1, .int a6), (2, .int a8), (3, .int a10)], [.int r557], hh558) _
                refine xi_ireturn kc_95_104 mr_95 rfl ?_
                show xw J ov 100 195 (312, [(4, .int x4), (3, .ref 167), (2, .ref 115), (1, .ref 0), (0, .ref 1000000)], [.int r557], hh558) _
                refine xi_aload_n (pc' := 313) (x := 115) kc_195_312 rfl rfl ?_
                refine xi_aload_n (pc' := 314) (x := 1000000) kc_195_313 rfl rfl ?_
                refine xi_iload (pc' := 316) (x := x4) kc_195_314 rfl rfl ?_
                refine xi_iconst (pc' := 317) (v := 1) kc_195_316 rfl rfl ?_
                refine xi_iadd (pc' := 318) (v := v5) kc_195_317 rfl ev5 ?_
                refine xi_ialoadO (pc' := 319) (v := a6) kc_195_318 rfl (by decide) hov0 (xi_in (by omega) (by omega)) ea6 ?_
                refine xi_aload_n (pc' := 320) (x := 1000000) kc_195_319 rfl rfl ?_
                refine xi_iload (pc' := 322) (x := x4) kc_195_320 rfl rfl ?_
                refine xi_iconst (pc' := 323) (v := 2) kc_195_322 rfl rfl ?_
                refine xi_iadd (pc' := 324) (v := v7) kc_195_323 rfl ev7 ?_
                refine xi_ialoadO (pc' := 325) (v := a8) kc_195_324 rfl (by decide) hov0 (xi_in (by omega) (by omega)) ea8 ?_
                refine xi_aload_n (pc' := 326) (x := 1000000) kc_195_325 rfl rfl ?_
                refine xi_iload (pc' := 328) (x := x4) kc_195_326 rfl rfl ?_
                refine xi_iconst (pc' := 329) (v := 3) kc_195_328 rfl rfl ?_
                refine xi_iadd (pc' := 330) (v := v9) kc_195_329 rfl ev9 ?_
                refine xi_ialoadO (pc' := 331) (v := a10) kc_195_330 rfl (by decide) hov0 (xi_in (by omega) (by omega)) ea10 ?_
                obtain ⟨u573, u574, u575, u576, u577, u578, u579, u580, u581, u582, u583, u584, u585, bu573, bu574, bu575, bu576, bu577, bu578, bu579, bu580, bu581, bu582, bu583, bu584, bu585, A586⟩ := xq_115 K564.1
                refine xi_virtual (mj := 16) (as := [.int a6, .int a8, .int a10]) (st1 := [.int r557]) (lv0 := [(0, .ref 115), (1, .int a6), (2, .int a8), (3, .int a10)]) kc_195_331 rfl rfl rfl rfl rfl A586 (Nat.le_of_ble_eq_true rfl) (hJ _ _ _ _ (by decide)) (xm_le ml_16 rfl) rfl ?_
                refine xi_aload_n (pc' := 1) (x := 115) kc_16_0 rfl rfl ?_
                refine xi_iconst (pc' := 2) (v := 0) kc_16_1 rfl rfl ?_
                refine xi_putfield (pc' := 5) (fs' := [.int 0, .int u574, .ref 116, .ref 117, .ref 118, .ref 119, .ref 120, .ref 121, .ref 122, .ref 123, .ref 124, .ref 125, .ref 126, .ref 127, .ref 128, .ref 129, .int u575, .ref 130, .int u576, .ref 131, .ref 132, .ref 133, .ref 134, .int u577, .ref 135, .ref 136, .ref 137, .ref 138, .ref 139, .ref 140, .ref 141, .ref 142, .int u578, .int u579, .int u580, .ref 143, .ref 144, .ref 145, .ref 146, .ref 147, .ref 148, .int u581, .ref 149, .ref 150, .ref 151, .int u582, .ref 152, .ref 153, .ref 154, .ref 155, .ref 156, .ref 157, .ref 158, .ref 159, .int u583, .ref 160, .int u584, .ref 161, .ref 162, .ref 163, .ref 164, .int u585, .ref 165, .ref 166]) kc_16_2 rfl rfl rfl A586 rfl rfl rfl (Nat.le_of_ble_eq_true rfl) rfl (fun hh588 eh587 => ?_)
                have K589 := xk_pf (k := 0) (v := 0) K564 (xk_wf rfl) xD_115 A586 rfl (by first | omega | decide) (by first | omega | decide) eh587 rfl
                refine xi_iload_n (pc' := 6) (x := a8) kc_16_5 rfl rfl ?_
                refine xi_iconst (pc' := 7) (v := 0) kc_16_6 rfl rfl ?_
                refine xi_iconst (pc' := 8) (v := 1) kc_16_7 rfl rfl ?_
                refine xi_static (mj := 11) (as := [.int a8, .int 0, .int 1]) (st1 := []) (lv0 := [(0, .int a8), (1, .int 0), (2, .int 1)]) kc_16_8 rfl rfl (Nat.le_of_ble_eq_true rfl) rfl rfl (Nat.le_of_ble_eq_true rfl) (hJ _ _ _ _ (by decide)) (xm_le ml_11 rfl) rfl ?_
                refine xi_iload_n (pc' := 1) (x := a8) kc_11_0 rfl rfl ?_
                refine xi_iload_n (pc' := 2) (x := 0) kc_11_1 rfl rfl ?_
                refine xi_cmf (pc' := 5) kc_11_2 rfl (xc_lt_f (X := a8.toInt) (Y := 0) rfl (by decide) (by omega)) ?_
                refine xi_iload_n (pc' := 6) (x := a8) kc_11_5 rfl rfl ?_
                refine xi_iload_n (pc' := 7) (x := 1) kc_11_6 rfl rfl ?_
                refine xi_cmf (pc' := 10) kc_11_7 rfl (xc_gt_f (X := a8.toInt) (Y := 1) rfl (by decide) (by omega)) ?_
                refine xi_iconst (pc' := 11) (v := 1) kc_11_10 rfl rfl ?_
                refine xi_goto (pc' := 15) kc_11_11 rfl ?_
                refine xi_ireturn kc_11_15 mr_11 rfl ?_
                show xw J ov 99 16 (11, [(0, .ref 115), (1, .int a6), (2, .int a8), (3, .int a10)], [.int 1], hh588) _
                refine xi_ift (pc' := 21) kc_16_11 rfl rfl ?_
                refine xi_iload_n (pc' := 22) (x := a6) kc_16_21 rfl rfl ?_
                refine xi_iff (pc' := 25) kc_16_22 rfl (xc_lt_f (X := a6.toInt) (Y := 0) rfl (by decide) (by omega)) ?_
                refine xi_iload_n (pc' := 26) (x := a10) kc_16_25 rfl rfl ?_
                refine xi_iload_n (pc' := 27) (x := a8) kc_16_26 rfl rfl ?_
                refine xi_ift (pc' := 35) kc_16_27 rfl (xc_ne_t (X := a8.toInt) (Y := 0) rfl (by decide) (by omega)) ?_
                refine xi_iconst (pc' := 36) (v := 0) kc_16_35 rfl rfl ?_
                refine xi_cmt (pc' := 46) kc_16_36 rfl (xc_ge_t (X := a10.toInt) (Y := 0) rfl (by decide) (by omega)) ?_
                refine xi_iload_n (pc' := 47) (x := a6) kc_16_46 rfl rfl ?_
                refine xi_sipush (pc' := 50) (v := 599) kc_16_47 rfl rfl ?_
                refine xi_cmf (pc' := 53) kc_16_50 rfl (xc_gt_f (X := a6.toInt) (Y := 599) rfl (by decide) (by omega)) ?_
                refine xi_iload_n (pc' := 54) (x := a10) kc_16_53 rfl rfl ?_
                refine xi_iload_n (pc' := 55) (x := a8) kc_16_54 rfl rfl ?_
                refine xi_ift (pc' := 63) kc_16_55 rfl (xc_ne_t (X := a8.toInt) (Y := 0) rfl (by decide) (by omega)) ?_
                refine xi_bipush (pc' := 65) (v := 20) kc_16_63 rfl rfl ?_
                refine xi_cmt (pc' := 81) kc_16_65 rfl (xc_le_t (X := a10.toInt) (Y := 20) rfl (by decide) (by omega)) ?_
                refine xi_iload_n (pc' := 82) (x := a8) kc_16_81 rfl rfl ?_
                refine xi_ift (pc' := 94) kc_16_82 rfl (xc_ne_t (X := a8.toInt) (Y := 0) rfl (by decide) (by omega)) ?_
                refine xi_aload_n (pc' := 95) (x := 115) kc_16_94 rfl rfl ?_
                refine xi_getfield (pc' := 98) (v := .ref 124) kc_16_95 rfl rfl rfl eh587.1 rfl ?_
                refine xi_iload_n (pc' := 99) (x := a6) kc_16_98 rfl rfl ?_
                have A590 := ((eh587.2.1 124 (by decide)).trans A568)
                refine xi_iaload (pc' := 100) (v := v496) kc_16_99 rfl A590 (by decide) rfl (xi_in (by omega) (by rw [hy4]; omega)) (xE_ld H1 (by first | omega | decide) (by first | omega | decide) (by omega) ev496) ?_
                refine xi_istore (pc' := 102) (lv' := [(4, .int v496), (0, .ref 115), (1, .int a6), (2, .int a8), (3, .int a10)]) kc_16_100 rfl rfl (xm_lt ml_16 rfl) ?_
                refine xi_aload_n (pc' := 103) (x := 115) kc_16_102 rfl rfl ?_
                refine xi_getfield (pc' := 106) (v := .ref 123) kc_16_103 rfl rfl rfl eh587.1 rfl ?_
                refine xi_iload_n (pc' := 107) (x := a6) kc_16_106 rfl rfl ?_
                refine xi_iload_n (pc' := 108) (x := a8) kc_16_107 rfl rfl ?_
                refine xi_ift (pc' := 115) kc_16_108 rfl (xc_ne_t (X := a8.toInt) (Y := 0) rfl (by decide) (by omega)) ?_
                refine xi_aload_n (pc' := 116) (x := 115) kc_16_115 rfl rfl ?_
                refine xi_getfield (pc' := 119) (v := .ref 123) kc_16_116 rfl rfl rfl eh587.1 rfl ?_
                refine xi_iload_n (pc' := 120) (x := a6) kc_16_119 rfl rfl ?_
                obtain ⟨v591, ev591, bv591, dv591⟩ := xj_get hy2 ry2 (i := a6) (by omega) (by omega)
                have A592 := ((eh587.2.1 123 (by decide)).trans A566)
                refine xi_iaload (pc' := 121) (v := v591) kc_16_120 rfl A592 (by decide) rfl (xi_in (by omega) (by rw [hy2]; omega)) ev591 ?_
                obtain ⟨y593, s593, hy593, ry593⟩ := xj_set (v := v591) hy2 ry2 a6 (by first | omega | decide) (by first | omega | decide)
                refine xi_iastore (pc' := 122) (x' := y593) kc_16_121 rfl A592 rfl (xi_in (by omega) (by rw [hy2]; omega)) s593 (fun hh593 eh593 => ?_)
                have K594 := xk_pa K589 (xk_wa rfl) xD_123 hy593 ry593 eh593
                refine xi_aload_n (pc' := 123) (x := 115) kc_16_122 rfl rfl ?_
                have A595 := ((eh593.2.1 115 (by decide)).trans eh587.1)
                refine xi_getfield (pc' := 126) (v := .ref 124) kc_16_123 rfl rfl rfl A595 rfl ?_
                refine xi_iload_n (pc' := 127) (x := a6) kc_16_126 rfl rfl ?_
                refine xi_iload_n (pc' := 128) (x := a8) kc_16_127 rfl rfl ?_
                refine xi_iconst (pc' := 129) (v := 1) kc_16_128 rfl rfl ?_
                refine xi_cmf (pc' := 132) kc_16_129 rfl (xc_ne_f (X := a8.toInt) (Y := 1) rfl (by decide) (by omega)) ?_
                refine xi_iload_n (pc' := 133) (x := a10) kc_16_132 rfl rfl ?_
                refine xi_goto (pc' := 142) kc_16_133 rfl ?_
                have A596 := ((eh593.2.1 124 (by decide)).trans A590)
                obtain ⟨y597, s597, hy597, ry597⟩ := xj_set (v := a10) hy4 ry4 a6 (by first | omega | decide) (by first | omega | decide)
                refine xi_iastore (pc' := 143) (x' := y597) kc_16_142 rfl A596 rfl (xi_in (by omega) (by rw [hy4]; omega)) s597 (fun hh597 eh597 => ?_)
                have K598 := xk_pa K594 (xk_wa rfl) xD_124 hy597 ry597 eh597
                refine xi_aload_n (pc' := 144) (x := 115) kc_16_143 rfl rfl ?_
                refine xi_iconst (pc' := 145) (v := 0) kc_16_144 rfl rfl ?_
                have A599 := ((eh597.2.1 115 (by decide)).trans A595)
                refine xi_putfield (pc' := 148) (fs' := [.int 0, .int u574, .ref 116, .ref 117, .ref 118, .ref 119, .ref 120, .ref 121, .ref 122, .ref 123, .ref 124, .ref 125, .ref 126, .ref 127, .ref 128, .ref 129, .int u575, .ref 130, .int u576, .ref 131, .ref 132, .ref 133, .ref 134, .int u577, .ref 135, .ref 136, .ref 137, .ref 138, .ref 139, .ref 140, .ref 141, .ref 142, .int u578, .int u579, .int u580, .ref 143, .ref 144, .ref 145, .ref 146, .ref 147, .ref 148, .int 0, .ref 149, .ref 150, .ref 151, .int u582, .ref 152, .ref 153, .ref 154, .ref 155, .ref 156, .ref 157, .ref 158, .ref 159, .int u583, .ref 160, .int u584, .ref 161, .ref 162, .ref 163, .ref 164, .int u585, .ref 165, .ref 166]) kc_16_145 rfl rfl rfl A599 rfl rfl rfl (Nat.le_of_ble_eq_true rfl) rfl (fun hh601 eh600 => ?_)
                have K602 := xk_pf (k := 41) (v := 0) K598 (xk_wf rfl) xD_115 A599 rfl (by first | omega | decide) (by first | omega | decide) eh600 rfl
                refine xi_iload (pc' := 150) (x := v496) kc_16_148 rfl rfl ?_
                refine xi_ireturn kc_16_150 mr_16 rfl ?_
                show xw J ov 100 195 (334, [(4, .int x4), (3, .ref 167), (2, .ref 115), (1, .ref 0), (0, .ref 1000000)], [.int v496, .int r557], hh601) _
                by_cases c603 : r557.toInt = v496.toInt
                · refine xi_cmt (pc' := 1501) kc_195_334 rfl (xc_eq_t (X := r557.toInt) (Y := v496.toInt) rfl rfl (by omega)) ?_
                  obtain ⟨v604, ev604⟩ : ∃ q : Int32, x4 + 6 = q := ⟨_, rfl⟩
                  have zv604 : v604.toInt = (x4.toInt + 6) := by rw [← ev604]; exact (xz_add (X := x4.toInt) (Y := 6) rfl (by decide) (by omega) (by omega)).trans (by omega)
                  refine xi_iinc (pc' := 1504) (x := x4) (v := v604) (lv' := [(4, .int v604), (3, .ref 167), (2, .ref 115), (1, .ref 0), (0, .ref 1000000)]) kc_195_1501 rfl rfl ev604 rfl (xm_lt ml_195 rfl) ?_
                  refine xi_goto (pc' := 23) kc_195_1504 rfl ?_
                  have A605 := ((eh600.2.1 6 (by decide)).trans ((eh597.2.1 6 (by decide)).trans ((eh593.2.1 6 (by decide)).trans ((eh587.2.1 6 (by decide)).trans A565))))
                  have A606 := ((eh600.2.1 123 (by decide)).trans ((eh597.2.1 123 (by decide)).trans eh593.1))
                  have A607 := ((eh600.2.1 9 (by decide)).trans ((eh597.2.1 9 (by decide)).trans ((eh593.2.1 9 (by decide)).trans ((eh587.2.1 9 (by decide)).trans A567))))
                  have A608 := ((eh600.2.1 124 (by decide)).trans eh597.1)
                  exact kk v604 hh601 (by omega) K602 ⟨(xE_mk A605 A606 (xE_id H0 ev591 s593)), (xE_mk A607 A608 (xE_set H1 (by first | omega | decide) (by omega) (by omega) (by omega) s497 s597))⟩
                · refine xi_cmf (pc' := 337) kc_195_334 rfl (xc_eq_f (X := r557.toInt) (Y := v496.toInt) rfl rfl (by omega)) ?_
                  refine xi_iconst (pc' := 338) (v := 0) kc_195_337 rfl rfl ?_
                  refine xi_ireturn kc_195_338 mr_195 rfl ?_
                  exfalso; omega
            · refine xi_cmf (pc' := 71) kc_95_68 rfl (xc_le_f (X := a10.toInt) (Y := 20) rfl (by decide) (by omega)) ?_
              refine xi_iload_n (pc' := 72) (x := a10) kc_95_71 rfl rfl ?_
              refine xi_bipush (pc' := 74) (v := 99) kc_95_72 rfl rfl ?_
              by_cases c609 : a10.toInt = 99
              · refine xi_cmt (pc' := 84) kc_95_74 rfl (xc_eq_t (X := a10.toInt) (Y := 99) rfl (by decide) (by omega)) ?_
                refine xi_aload_n (pc' := 85) (x := 0) kc_95_84 rfl rfl ?_
                refine xi_getfield (pc' := 88) (v := .ref 66) kc_95_85 rfl rfl rfl A13 rfl ?_
                obtain ⟨u611, wl610, bu611, A612⟩ := xq_66 K.1
                refine xi_virtual (mj := 91) (as := []) (st1 := []) (lv0 := [(0, .ref 66)]) kc_95_88 rfl rfl rfl rfl rfl A612 (Nat.le_of_ble_eq_true rfl) (hJ _ _ _ _ (by decide)) (xm_le ml_91 rfl) rfl ?_
                refine xi_aload_n (pc' := 1) (x := 66) kc_91_0 rfl rfl ?_
                refine xi_lconst (pc' := 2) (v := 0) kc_91_1 rfl rfl ?_
                refine xi_putfield (pc' := 5) (fs' := [.ref 1, .ref 67, .ref 70, .ref 71, .ref 72, .ref 73, .ref 74, .long 0, .int u611]) kc_91_2 rfl rfl rfl A612 rfl rfl rfl (Nat.le_of_ble_eq_true rfl) rfl (fun hh614 eh613 => ?_)
                have K615 := xk_pl (k := 7) (v := 0) K (xk_wf rfl) xD_66 A612 rfl eh613 rfl
                refine xi_return kc_91_5 mr_91 ?_
                show xw J ov 99 95 (91, [(5, .int 20), (4, .int 0), (0, .ref 0), (1, .int a6), (2, .int a8), (3, .int a10)], [], hh614) _
                refine xi_aload_n (pc' := 92) (x := 0) kc_95_91 rfl rfl ?_
                have A616 := ((eh613.2.1 0 (by decide)).trans A13)
                refine xi_getfield (pc' := 95) (v := .ref 1) kc_95_92 rfl rfl rfl A616 rfl ?_
                refine xi_iload_n (pc' := 96) (x := a8) kc_95_95 rfl rfl ?_
                obtain ⟨u617, u618, bu617, bu618, A619⟩ := xq_1 K.1
                have A620 := ((eh613.2.1 1 (by decide)).trans A619)
                refine xi_virtual (mj := 97) (as := [.int a8]) (st1 := []) (lv0 := [(0, .ref 1), (1, .int a8)]) kc_95_96 rfl rfl rfl rfl rfl A620 (Nat.le_of_ble_eq_true rfl) (hJ _ _ _ _ (by decide)) (xm_le ml_97 rfl) rfl ?_
                refine xi_iload_n (pc' := 1) (x := a8) kc_97_0 rfl rfl ?_
                refine xi_ift (pc' := 11) kc_97_1 rfl (xc_ne_t (X := a8.toInt) (Y := 0) rfl (by decide) (by omega)) ?_
                refine xi_aload_n (pc' := 12) (x := 1) kc_97_11 rfl rfl ?_
                refine xi_getfield (pc' := 15) (v := .ref 8) kc_97_12 rfl rfl rfl A620 rfl ?_
                refine xi_areturn kc_97_15 (by rw [mr_97]; rfl) ?_
                show xw J ov 99 95 (99, [(5, .int 20), (4, .int 0), (0, .ref 0), (1, .int a6), (2, .int a8), (3, .int a10)], [.ref 8], hh614) _
                refine xi_iload_n (pc' := 100) (x := a6) kc_95_99 rfl rfl ?_
                refine xi_iload_n (pc' := 101) (x := a10) kc_95_100 rfl rfl ?_
                obtain ⟨u621, bu621, A622⟩ := xq_8 K.1
                have A623 := ((eh613.2.1 8 (by decide)).trans A622)
                refine xi_virtual (mj := 98) (as := [.int a6, .int a10]) (st1 := []) (lv0 := [(0, .ref 8), (1, .int a6), (2, .int a10)]) kc_95_101 rfl rfl rfl rfl rfl A623 (Nat.le_of_ble_eq_true rfl) (hJ _ _ _ _ (by decide)) (xm_le ml_98 rfl) rfl ?_
                refine xi_iload_n (pc' := 1) (x := a6) kc_98_0 rfl rfl ?_
                refine xi_iff (pc' := 4) kc_98_1 rfl (xc_lt_f (X := a6.toInt) (Y := 0) rfl (by decide) (by omega)) ?_
                refine xi_iload_n (pc' := 5) (x := a6) kc_98_4 rfl rfl ?_
                refine xi_aload_n (pc' := 6) (x := 8) kc_98_5 rfl rfl ?_
                refine xi_getfield (pc' := 9) (v := .ref 9) kc_98_6 rfl rfl rfl A623 rfl ?_
                have A624 := ((eh613.2.1 9 (by decide)).trans A3)
                refine xi_arraylength (pc' := 10) (n := 601) (v := 601) kc_98_9 rfl (xl_lenI (by decide) (by decide) A624 hy3) rfl ?_
                refine xi_cmt (pc' := 16) kc_98_10 rfl (xc_lt_t (X := a6.toInt) (Y := 601) rfl (by decide) (by omega)) ?_
                refine xi_aload_n (pc' := 17) (x := 8) kc_98_16 rfl rfl ?_
                refine xi_getfield (pc' := 20) (v := .ref 9) kc_98_17 rfl rfl rfl A623 rfl ?_
                refine xi_iload_n (pc' := 21) (x := a6) kc_98_20 rfl rfl ?_
                obtain ⟨v625, ev625, bv625, dv625⟩ := xj_get hy3 ry3 (i := a6) (by omega) (by omega)
                refine xi_iaload (pc' := 22) (v := v625) kc_98_21 rfl A624 (by decide) rfl (xi_in (by omega) (by rw [hy3]; omega)) ev625 ?_
                refine xi_istore_n (pc' := 23) (lv' := [(3, .int v625), (0, .ref 8), (1, .int a6), (2, .int a10)]) kc_98_22 rfl rfl (xm_lt ml_98 rfl) ?_
                refine xi_aload_n (pc' := 24) (x := 8) kc_98_23 rfl rfl ?_
                refine xi_getfield (pc' := 27) (v := .ref 9) kc_98_24 rfl rfl rfl A623 rfl ?_
                refine xi_iload_n (pc' := 28) (x := a6) kc_98_27 rfl rfl ?_
                refine xi_iload_n (pc' := 29) (x := a10) kc_98_28 rfl rfl ?_
                obtain ⟨y626, s626, hy626, ry626⟩ := xj_set (v := a10) hy3 ry3 a6 (by first | omega | decide) (by first | omega | decide)
                refine xi_iastore (pc' := 30) (x' := y626) kc_98_29 rfl A624 rfl (xi_in (by omega) (by rw [hy3]; omega)) s626 (fun hh626 eh626 => ?_)
                have K627 := xk_pa K615 (xk_wa rfl) xD_9 hy626 ry626 eh626
                refine xi_aload_n (pc' := 31) (x := 8) kc_98_30 rfl rfl ?_
                refine xi_iload_n (pc' := 32) (x := a6) kc_98_31 rfl rfl ?_
                refine xi_iconst (pc' := 33) (v := 1) kc_98_32 rfl rfl ?_
                obtain ⟨v628, ev628⟩ : ∃ q : Int32, a6 - 1 = q := ⟨_, rfl⟩
                have zv628 : v628.toInt = (a6.toInt + (-1)) := by rw [← ev628]; exact (xz_sub (X := a6.toInt) (Y := 1) rfl (by decide) (by omega) (by omega)).trans (by omega)
                refine xi_isub (pc' := 34) (v := v628) kc_98_33 rfl ev628 ?_
                have A629 := ((eh626.2.1 8 (by decide)).trans A623)
                refine xi_virtual (mj := 99) (as := [.int v628]) (st1 := []) (lv0 := [(0, .ref 8), (1, .int v628)]) kc_98_34 rfl rfl rfl rfl rfl A629 (Nat.le_of_ble_eq_true rfl) (hJ _ _ _ _ (by decide)) (xm_le ml_99 rfl) rfl ?_
                refine xi_iload_n (pc' := 1) (x := v628) kc_99_0 rfl rfl ?_
                by_cases c630 : (a6.toInt + (-1)) < 0
                · refine xi_ift (pc' := 13) kc_99_1 rfl (xc_lt_t (X := (a6.toInt + (-1))) (Y := 0) zv628 (by decide) (by omega)) ?_
                  refine xi_aload_n (pc' := 14) (x := 8) kc_99_13 rfl rfl ?_
                  refine xi_getfield (pc' := 17) (v := .int u621) kc_99_14 rfl rfl rfl A629 rfl ?_
                  refine xi_goto (pc' := 26) kc_99_17 rfl ?_
                  refine xi_ireturn kc_99_26 mr_99 rfl ?_
                  show xw J ov 98 98 (37, [(3, .int v625), (0, .ref 8), (1, .int a6), (2, .int a10)], [.int u621], hh626) _
                  refine xi_istore (pc' := 39) (lv' := [(4, .int u621), (3, .int v625), (0, .ref 8), (1, .int a6), (2, .int a10)]) kc_98_37 rfl rfl (xm_lt ml_98 rfl) ?_
                  refine xi_iload_n (pc' := 40) (x := a6) kc_98_39 rfl rfl ?_
                  refine xi_istore (pc' := 42) (lv' := [(5, .int a6), (4, .int u621), (3, .int v625), (0, .ref 8), (1, .int a6), (2, .int a10)]) kc_98_40 rfl rfl (xm_lt ml_98 rfl) ?_
                  refine xw_lv (b := [(0, .ref 8), (3, .int v625), (4, .int u621), (5, .int a6)]) (lvS_cons (lvS_cons (lvS_cons (lvS_cons (lvS_nil (show ([5, 4, 3, 0, 1, 2] : List Nat).Nodup by decide)) rfl) rfl) rfl) rfl) ?_
                  refine (lp_98_1 hJ hov1 hov2 (d := 97) (hb := hh626) (fun r631 hh632 K633 => ?_) 602) v625 u621 a6 hh626 (by first | omega | decide) (xk_re K627.1) (by omega)
                  have br631 := xc_rng r631
                  have A634 := ((eh626.2.1 6 (by decide)).trans ((eh613.2.1 6 (by decide)).trans A1))
                  have A635 := ((eh626.2.1 123 (by decide)).trans ((eh613.2.1 123 (by decide)).trans A2))
                  have A636 := ((eh626.2.1 124 (by decide)).trans ((eh613.2.1 124 (by decide)).trans A4))
                  have A637 := ((eh626.2.1 0 (by decide)).trans A616)
                  have K638 := xk_tr K627 K633 rfl
                  have A639 := xk_eqa (q := 0) K633 rfl A634
                  have A640 := xk_eqa (q := 0) K633 rfl A635
                  have A641 := xk_eqa (q := 0) K633 rfl eh626.1
                  have A642 := xk_eqa (q := 0) K633 rfl A636
                  obtain ⟨u643, u644, bu643, bu644, A645⟩ := xq_0 K638.1
                  have e646 : u12 = u644 := xk_eqi (q := 9) K633 rfl A637 A645 rfl rfl
                  subst e646
                  show xw J ov 99 95 (104, [(5, .int 20), (4, .int 0), (0, .ref 0), (1, .int a6), (2, .int a8), (3, .int a10)], [.int r631], hh632) _
                  refine xi_ireturn kc_95_104 mr_95 rfl ?_
                  show xw J ov 100 195 (312, [(4, .int x4), (3, .ref 167), (2, .ref 115), (1, .ref 0), (0, .ref 1000000)], [.int r631], hh632) _
                  refine xi_aload_n (pc' := 313) (x := 115) kc_195_312 rfl rfl ?_
                  refine xi_aload_n (pc' := 314) (x := 1000000) kc_195_313 rfl rfl ?_
                  refine xi_iload (pc' := 316) (x := x4) kc_195_314 rfl rfl ?_
                  refine xi_iconst (pc' := 317) (v := 1) kc_195_316 rfl rfl ?_
                  refine xi_iadd (pc' := 318) (v := v5) kc_195_317 rfl ev5 ?_
                  refine xi_ialoadO (pc' := 319) (v := a6) kc_195_318 rfl (by decide) hov0 (xi_in (by omega) (by omega)) ea6 ?_
                  refine xi_aload_n (pc' := 320) (x := 1000000) kc_195_319 rfl rfl ?_
                  refine xi_iload (pc' := 322) (x := x4) kc_195_320 rfl rfl ?_
                  refine xi_iconst (pc' := 323) (v := 2) kc_195_322 rfl rfl ?_
                  refine xi_iadd (pc' := 324) (v := v7) kc_195_323 rfl ev7 ?_
                  refine xi_ialoadO (pc' := 325) (v := a8) kc_195_324 rfl (by decide) hov0 (xi_in (by omega) (by omega)) ea8 ?_
                  refine xi_aload_n (pc' := 326) (x := 1000000) kc_195_325 rfl rfl ?_
                  refine xi_iload (pc' := 328) (x := x4) kc_195_326 rfl rfl ?_
                  refine xi_iconst (pc' := 329) (v := 3) kc_195_328 rfl rfl ?_
                  refine xi_iadd (pc' := 330) (v := v9) kc_195_329 rfl ev9 ?_
                  refine xi_ialoadO (pc' := 331) (v := a10) kc_195_330 rfl (by decide) hov0 (xi_in (by omega) (by omega)) ea10 ?_
                  obtain ⟨u647, u648, u649, u650, u651, u652, u653, u654, u655, u656, u657, u658, u659, bu647, bu648, bu649, bu650, bu651, bu652, bu653, bu654, bu655, bu656, bu657, bu658, bu659, A660⟩ := xq_115 K638.1
                  refine xi_virtual (mj := 16) (as := [.int a6, .int a8, .int a10]) (st1 := [.int r631]) (lv0 := [(0, .ref 115), (1, .int a6), (2, .int a8), (3, .int a10)]) kc_195_331 rfl rfl rfl rfl rfl A660 (Nat.le_of_ble_eq_true rfl) (hJ _ _ _ _ (by decide)) (xm_le ml_16 rfl) rfl ?_
                  refine xi_aload_n (pc' := 1) (x := 115) kc_16_0 rfl rfl ?_
                  refine xi_iconst (pc' := 2) (v := 0) kc_16_1 rfl rfl ?_
                  refine xi_putfield (pc' := 5) (fs' := [.int 0, .int u648, .ref 116, .ref 117, .ref 118, .ref 119, .ref 120, .ref 121, .ref 122, .ref 123, .ref 124, .ref 125, .ref 126, .ref 127, .ref 128, .ref 129, .int u649, .ref 130, .int u650, .ref 131, .ref 132, .ref 133, .ref 134, .int u651, .ref 135, .ref 136, .ref 137, .ref 138, .ref 139, .ref 140, .ref 141, .ref 142, .int u652, .int u653, .int u654, .ref 143, .ref 144, .ref 145, .ref 146, .ref 147, .ref 148, .int u655, .ref 149, .ref 150, .ref 151, .int u656, .ref 152, .ref 153, .ref 154, .ref 155, .ref 156, .ref 157, .ref 158, .ref 159, .int u657, .ref 160, .int u658, .ref 161, .ref 162, .ref 163, .ref 164, .int u659, .ref 165, .ref 166]) kc_16_2 rfl rfl rfl A660 rfl rfl rfl (Nat.le_of_ble_eq_true rfl) rfl (fun hh662 eh661 => ?_)
                  have K663 := xk_pf (k := 0) (v := 0) K638 (xk_wf rfl) xD_115 A660 rfl (by first | omega | decide) (by first | omega | decide) eh661 rfl
                  refine xi_iload_n (pc' := 6) (x := a8) kc_16_5 rfl rfl ?_
                  refine xi_iconst (pc' := 7) (v := 0) kc_16_6 rfl rfl ?_
                  refine xi_iconst (pc' := 8) (v := 1) kc_16_7 rfl rfl ?_
                  refine xi_static (mj := 11) (as := [.int a8, .int 0, .int 1]) (st1 := []) (lv0 := [(0, .int a8), (1, .int 0), (2, .int 1)]) kc_16_8 rfl rfl (Nat.le_of_ble_eq_true rfl) rfl rfl (Nat.le_of_ble_eq_true rfl) (hJ _ _ _ _ (by decide)) (xm_le ml_11 rfl) rfl ?_
                  refine xi_iload_n (pc' := 1) (x := a8) kc_11_0 rfl rfl ?_
                  refine xi_iload_n (pc' := 2) (x := 0) kc_11_1 rfl rfl ?_
                  refine xi_cmf (pc' := 5) kc_11_2 rfl (xc_lt_f (X := a8.toInt) (Y := 0) rfl (by decide) (by omega)) ?_
                  refine xi_iload_n (pc' := 6) (x := a8) kc_11_5 rfl rfl ?_
                  refine xi_iload_n (pc' := 7) (x := 1) kc_11_6 rfl rfl ?_
                  refine xi_cmf (pc' := 10) kc_11_7 rfl (xc_gt_f (X := a8.toInt) (Y := 1) rfl (by decide) (by omega)) ?_
                  refine xi_iconst (pc' := 11) (v := 1) kc_11_10 rfl rfl ?_
                  refine xi_goto (pc' := 15) kc_11_11 rfl ?_
                  refine xi_ireturn kc_11_15 mr_11 rfl ?_
                  show xw J ov 99 16 (11, [(0, .ref 115), (1, .int a6), (2, .int a8), (3, .int a10)], [.int 1], hh662) _
                  refine xi_ift (pc' := 21) kc_16_11 rfl rfl ?_
                  refine xi_iload_n (pc' := 22) (x := a6) kc_16_21 rfl rfl ?_
                  refine xi_iff (pc' := 25) kc_16_22 rfl (xc_lt_f (X := a6.toInt) (Y := 0) rfl (by decide) (by omega)) ?_
                  refine xi_iload_n (pc' := 26) (x := a10) kc_16_25 rfl rfl ?_
                  refine xi_iload_n (pc' := 27) (x := a8) kc_16_26 rfl rfl ?_
                  refine xi_ift (pc' := 35) kc_16_27 rfl (xc_ne_t (X := a8.toInt) (Y := 0) rfl (by decide) (by omega)) ?_
                  refine xi_iconst (pc' := 36) (v := 0) kc_16_35 rfl rfl ?_
                  refine xi_cmt (pc' := 46) kc_16_36 rfl (xc_ge_t (X := a10.toInt) (Y := 0) rfl (by decide) (by omega)) ?_
                  refine xi_iload_n (pc' := 47) (x := a6) kc_16_46 rfl rfl ?_
                  refine xi_sipush (pc' := 50) (v := 599) kc_16_47 rfl rfl ?_
                  refine xi_cmf (pc' := 53) kc_16_50 rfl (xc_gt_f (X := a6.toInt) (Y := 599) rfl (by decide) (by omega)) ?_
                  refine xi_iload_n (pc' := 54) (x := a10) kc_16_53 rfl rfl ?_
                  refine xi_iload_n (pc' := 55) (x := a8) kc_16_54 rfl rfl ?_
                  refine xi_ift (pc' := 63) kc_16_55 rfl (xc_ne_t (X := a8.toInt) (Y := 0) rfl (by decide) (by omega)) ?_
                  refine xi_bipush (pc' := 65) (v := 20) kc_16_63 rfl rfl ?_
                  refine xi_cmf (pc' := 68) kc_16_65 rfl (xc_le_f (X := a10.toInt) (Y := 20) rfl (by decide) (by omega)) ?_
                  refine xi_iload_n (pc' := 69) (x := a10) kc_16_68 rfl rfl ?_
                  refine xi_bipush (pc' := 71) (v := 99) kc_16_69 rfl rfl ?_
                  refine xi_cmt (pc' := 81) kc_16_71 rfl (xc_eq_t (X := a10.toInt) (Y := 99) rfl (by decide) (by omega)) ?_
                  refine xi_iload_n (pc' := 82) (x := a8) kc_16_81 rfl rfl ?_
                  refine xi_ift (pc' := 94) kc_16_82 rfl (xc_ne_t (X := a8.toInt) (Y := 0) rfl (by decide) (by omega)) ?_
                  refine xi_aload_n (pc' := 95) (x := 115) kc_16_94 rfl rfl ?_
                  refine xi_getfield (pc' := 98) (v := .ref 124) kc_16_95 rfl rfl rfl eh661.1 rfl ?_
                  refine xi_iload_n (pc' := 99) (x := a6) kc_16_98 rfl rfl ?_
                  have A664 := ((eh661.2.1 124 (by decide)).trans A642)
                  refine xi_iaload (pc' := 100) (v := v625) kc_16_99 rfl A664 (by decide) rfl (xi_in (by omega) (by rw [hy4]; omega)) (xE_ld H1 (by first | omega | decide) (by first | omega | decide) (by omega) ev625) ?_
                  refine xi_istore (pc' := 102) (lv' := [(4, .int v625), (0, .ref 115), (1, .int a6), (2, .int a8), (3, .int a10)]) kc_16_100 rfl rfl (xm_lt ml_16 rfl) ?_
                  refine xi_aload_n (pc' := 103) (x := 115) kc_16_102 rfl rfl ?_
                  refine xi_getfield (pc' := 106) (v := .ref 123) kc_16_103 rfl rfl rfl eh661.1 rfl ?_
                  refine xi_iload_n (pc' := 107) (x := a6) kc_16_106 rfl rfl ?_
                  refine xi_iload_n (pc' := 108) (x := a8) kc_16_107 rfl rfl ?_
                  refine xi_ift (pc' := 115) kc_16_108 rfl (xc_ne_t (X := a8.toInt) (Y := 0) rfl (by decide) (by omega)) ?_
                  refine xi_aload_n (pc' := 116) (x := 115) kc_16_115 rfl rfl ?_
                  refine xi_getfield (pc' := 119) (v := .ref 123) kc_16_116 rfl rfl rfl eh661.1 rfl ?_
                  refine xi_iload_n (pc' := 120) (x := a6) kc_16_119 rfl rfl ?_
                  obtain ⟨v665, ev665, bv665, dv665⟩ := xj_get hy2 ry2 (i := a6) (by omega) (by omega)
                  have A666 := ((eh661.2.1 123 (by decide)).trans A640)
                  refine xi_iaload (pc' := 121) (v := v665) kc_16_120 rfl A666 (by decide) rfl (xi_in (by omega) (by rw [hy2]; omega)) ev665 ?_
                  obtain ⟨y667, s667, hy667, ry667⟩ := xj_set (v := v665) hy2 ry2 a6 (by first | omega | decide) (by first | omega | decide)
                  refine xi_iastore (pc' := 122) (x' := y667) kc_16_121 rfl A666 rfl (xi_in (by omega) (by rw [hy2]; omega)) s667 (fun hh667 eh667 => ?_)
                  have K668 := xk_pa K663 (xk_wa rfl) xD_123 hy667 ry667 eh667
                  refine xi_aload_n (pc' := 123) (x := 115) kc_16_122 rfl rfl ?_
                  have A669 := ((eh667.2.1 115 (by decide)).trans eh661.1)
                  refine xi_getfield (pc' := 126) (v := .ref 124) kc_16_123 rfl rfl rfl A669 rfl ?_
                  refine xi_iload_n (pc' := 127) (x := a6) kc_16_126 rfl rfl ?_
                  refine xi_iload_n (pc' := 128) (x := a8) kc_16_127 rfl rfl ?_
                  refine xi_iconst (pc' := 129) (v := 1) kc_16_128 rfl rfl ?_
                  refine xi_cmf (pc' := 132) kc_16_129 rfl (xc_ne_f (X := a8.toInt) (Y := 1) rfl (by decide) (by omega)) ?_
                  refine xi_iload_n (pc' := 133) (x := a10) kc_16_132 rfl rfl ?_
                  refine xi_goto (pc' := 142) kc_16_133 rfl ?_
                  have A670 := ((eh667.2.1 124 (by decide)).trans A664)
                  obtain ⟨y671, s671, hy671, ry671⟩ := xj_set (v := a10) hy4 ry4 a6 (by first | omega | decide) (by first | omega | decide)
                  refine xi_iastore (pc' := 143) (x' := y671) kc_16_142 rfl A670 rfl (xi_in (by omega) (by rw [hy4]; omega)) s671 (fun hh671 eh671 => ?_)
                  have K672 := xk_pa K668 (xk_wa rfl) xD_124 hy671 ry671 eh671
                  refine xi_aload_n (pc' := 144) (x := 115) kc_16_143 rfl rfl ?_
                  refine xi_iconst (pc' := 145) (v := 0) kc_16_144 rfl rfl ?_
                  have A673 := ((eh671.2.1 115 (by decide)).trans A669)
                  refine xi_putfield (pc' := 148) (fs' := [.int 0, .int u648, .ref 116, .ref 117, .ref 118, .ref 119, .ref 120, .ref 121, .ref 122, .ref 123, .ref 124, .ref 125, .ref 126, .ref 127, .ref 128, .ref 129, .int u649, .ref 130, .int u650, .ref 131, .ref 132, .ref 133, .ref 134, .int u651, .ref 135, .ref 136, .ref 137, .ref 138, .ref 139, .ref 140, .ref 141, .ref 142, .int u652, .int u653, .int u654, .ref 143, .ref 144, .ref 145, .ref 146, .ref 147, .ref 148, .int 0, .ref 149, .ref 150, .ref 151, .int u656, .ref 152, .ref 153, .ref 154, .ref 155, .ref 156, .ref 157, .ref 158, .ref 159, .int u657, .ref 160, .int u658, .ref 161, .ref 162, .ref 163, .ref 164, .int u659, .ref 165, .ref 166]) kc_16_145 rfl rfl rfl A673 rfl rfl rfl (Nat.le_of_ble_eq_true rfl) rfl (fun hh675 eh674 => ?_)
                  have K676 := xk_pf (k := 41) (v := 0) K672 (xk_wf rfl) xD_115 A673 rfl (by first | omega | decide) (by first | omega | decide) eh674 rfl
                  refine xi_iload (pc' := 150) (x := v625) kc_16_148 rfl rfl ?_
                  refine xi_ireturn kc_16_150 mr_16 rfl ?_
                  show xw J ov 100 195 (334, [(4, .int x4), (3, .ref 167), (2, .ref 115), (1, .ref 0), (0, .ref 1000000)], [.int v625, .int r631], hh675) _
                  by_cases c677 : r631.toInt = v625.toInt
                  · refine xi_cmt (pc' := 1501) kc_195_334 rfl (xc_eq_t (X := r631.toInt) (Y := v625.toInt) rfl rfl (by omega)) ?_
                    obtain ⟨v678, ev678⟩ : ∃ q : Int32, x4 + 6 = q := ⟨_, rfl⟩
                    have zv678 : v678.toInt = (x4.toInt + 6) := by rw [← ev678]; exact (xz_add (X := x4.toInt) (Y := 6) rfl (by decide) (by omega) (by omega)).trans (by omega)
                    refine xi_iinc (pc' := 1504) (x := x4) (v := v678) (lv' := [(4, .int v678), (3, .ref 167), (2, .ref 115), (1, .ref 0), (0, .ref 1000000)]) kc_195_1501 rfl rfl ev678 rfl (xm_lt ml_195 rfl) ?_
                    refine xi_goto (pc' := 23) kc_195_1504 rfl ?_
                    have A679 := ((eh674.2.1 6 (by decide)).trans ((eh671.2.1 6 (by decide)).trans ((eh667.2.1 6 (by decide)).trans ((eh661.2.1 6 (by decide)).trans A639))))
                    have A680 := ((eh674.2.1 123 (by decide)).trans ((eh671.2.1 123 (by decide)).trans eh667.1))
                    have A681 := ((eh674.2.1 9 (by decide)).trans ((eh671.2.1 9 (by decide)).trans ((eh667.2.1 9 (by decide)).trans ((eh661.2.1 9 (by decide)).trans A641))))
                    have A682 := ((eh674.2.1 124 (by decide)).trans eh671.1)
                    exact kk v678 hh675 (by omega) K676 ⟨(xE_mk A679 A680 (xE_id H0 ev665 s667)), (xE_mk A681 A682 (xE_set H1 (by first | omega | decide) (by omega) (by omega) (by omega) s626 s671))⟩
                  · refine xi_cmf (pc' := 337) kc_195_334 rfl (xc_eq_f (X := r631.toInt) (Y := v625.toInt) rfl rfl (by omega)) ?_
                    refine xi_iconst (pc' := 338) (v := 0) kc_195_337 rfl rfl ?_
                    refine xi_ireturn kc_195_338 mr_195 rfl ?_
                    exfalso; omega
                · refine xi_iff (pc' := 4) kc_99_1 rfl (xc_lt_f (X := (a6.toInt + (-1))) (Y := 0) zv628 (by decide) (by omega)) ?_
                  refine xi_iload_n (pc' := 5) (x := v628) kc_99_4 rfl rfl ?_
                  refine xi_aload_n (pc' := 6) (x := 8) kc_99_5 rfl rfl ?_
                  refine xi_getfield (pc' := 9) (v := .ref 10) kc_99_6 rfl rfl rfl A629 rfl ?_
                  obtain ⟨y683, A683, hy683, ry683⟩ := xk_arr K.1 xD_10
                  have A684 := ((eh626.2.1 10 (by decide)).trans ((eh613.2.1 10 (by decide)).trans A683))
                  refine xi_arraylength (pc' := 10) (n := 601) (v := 601) kc_99_9 rfl (xl_lenI (by decide) (by decide) A684 hy683) rfl ?_
                  refine xi_cmt (pc' := 20) kc_99_10 rfl (xc_lt_t (X := (a6.toInt + (-1))) (Y := 601) zv628 (by decide) (by omega)) ?_
                  refine xi_aload_n (pc' := 21) (x := 8) kc_99_20 rfl rfl ?_
                  refine xi_getfield (pc' := 24) (v := .ref 10) kc_99_21 rfl rfl rfl A629 rfl ?_
                  refine xi_iload_n (pc' := 25) (x := v628) kc_99_24 rfl rfl ?_
                  obtain ⟨v685, ev685, bv685, dv685⟩ := xj_get hy683 ry683 (i := v628) (by rw [zv628]; omega) (by rw [zv628]; omega)
                  refine xi_iaload (pc' := 26) (v := v685) kc_99_25 rfl A684 (by decide) rfl (xi_in (by rw [zv628]; omega) (by rw [hy683]; rw [zv628]; omega)) ev685 ?_
                  refine xi_ireturn kc_99_26 mr_99 rfl ?_
                  show xw J ov 98 98 (37, [(3, .int v625), (0, .ref 8), (1, .int a6), (2, .int a10)], [.int v685], hh626) _
                  refine xi_istore (pc' := 39) (lv' := [(4, .int v685), (3, .int v625), (0, .ref 8), (1, .int a6), (2, .int a10)]) kc_98_37 rfl rfl (xm_lt ml_98 rfl) ?_
                  refine xi_iload_n (pc' := 40) (x := a6) kc_98_39 rfl rfl ?_
                  refine xi_istore (pc' := 42) (lv' := [(5, .int a6), (4, .int v685), (3, .int v625), (0, .ref 8), (1, .int a6), (2, .int a10)]) kc_98_40 rfl rfl (xm_lt ml_98 rfl) ?_
                  refine xw_lv (b := [(0, .ref 8), (3, .int v625), (4, .int v685), (5, .int a6)]) (lvS_cons (lvS_cons (lvS_cons (lvS_cons (lvS_nil (show ([5, 4, 3, 0, 1, 2] : List Nat).Nodup by decide)) rfl) rfl) rfl) rfl) ?_
                  refine (lp_98_1 hJ hov1 hov2 (d := 97) (hb := hh626) (fun r686 hh687 K688 => ?_) 602) v625 v685 a6 hh626 (by first | omega | decide) (xk_re K627.1) (by omega)
                  have br686 := xc_rng r686
                  have A689 := ((eh626.2.1 6 (by decide)).trans ((eh613.2.1 6 (by decide)).trans A1))
                  have A690 := ((eh626.2.1 123 (by decide)).trans ((eh613.2.1 123 (by decide)).trans A2))
                  have A691 := ((eh626.2.1 124 (by decide)).trans ((eh613.2.1 124 (by decide)).trans A4))
                  have A692 := ((eh626.2.1 0 (by decide)).trans A616)
                  have K693 := xk_tr K627 K688 rfl
                  have A694 := xk_eqa (q := 0) K688 rfl A689
                  have A695 := xk_eqa (q := 0) K688 rfl A690
                  have A696 := xk_eqa (q := 0) K688 rfl eh626.1
                  have A697 := xk_eqa (q := 0) K688 rfl A691
                  obtain ⟨u698, u699, bu698, bu699, A700⟩ := xq_0 K693.1
                  have e701 : u12 = u699 := xk_eqi (q := 9) K688 rfl A692 A700 rfl rfl
                  subst e701
                  show xw J ov 99 95 (104, [(5, .int 20), (4, .int 0), (0, .ref 0), (1, .int a6), (2, .int a8), (3, .int a10)], [.int r686], hh687) _
                  refine xi_ireturn kc_95_104 mr_95 rfl ?_
                  show xw J ov 100 195 (312, [(4, .int x4), (3, .ref 167), (2, .ref 115), (1, .ref 0), (0, .ref 1000000)], [.int r686], hh687) _
                  refine xi_aload_n (pc' := 313) (x := 115) kc_195_312 rfl rfl ?_
                  refine xi_aload_n (pc' := 314) (x := 1000000) kc_195_313 rfl rfl ?_
                  refine xi_iload (pc' := 316) (x := x4) kc_195_314 rfl rfl ?_
                  refine xi_iconst (pc' := 317) (v := 1) kc_195_316 rfl rfl ?_
                  refine xi_iadd (pc' := 318) (v := v5) kc_195_317 rfl ev5 ?_
                  refine xi_ialoadO (pc' := 319) (v := a6) kc_195_318 rfl (by decide) hov0 (xi_in (by omega) (by omega)) ea6 ?_
                  refine xi_aload_n (pc' := 320) (x := 1000000) kc_195_319 rfl rfl ?_
                  refine xi_iload (pc' := 322) (x := x4) kc_195_320 rfl rfl ?_
                  refine xi_iconst (pc' := 323) (v := 2) kc_195_322 rfl rfl ?_
                  refine xi_iadd (pc' := 324) (v := v7) kc_195_323 rfl ev7 ?_
                  refine xi_ialoadO (pc' := 325) (v := a8) kc_195_324 rfl (by decide) hov0 (xi_in (by omega) (by omega)) ea8 ?_
                  refine xi_aload_n (pc' := 326) (x := 1000000) kc_195_325 rfl rfl ?_
                  refine xi_iload (pc' := 328) (x := x4) kc_195_326 rfl rfl ?_
                  refine xi_iconst (pc' := 329) (v := 3) kc_195_328 rfl rfl ?_
                  refine xi_iadd (pc' := 330) (v := v9) kc_195_329 rfl ev9 ?_
                  refine xi_ialoadO (pc' := 331) (v := a10) kc_195_330 rfl (by decide) hov0 (xi_in (by omega) (by omega)) ea10 ?_
                  obtain ⟨u702, u703, u704, u705, u706, u707, u708, u709, u710, u711, u712, u713, u714, bu702, bu703, bu704, bu705, bu706, bu707, bu708, bu709, bu710, bu711, bu712, bu713, bu714, A715⟩ := xq_115 K693.1
                  refine xi_virtual (mj := 16) (as := [.int a6, .int a8, .int a10]) (st1 := [.int r686]) (lv0 := [(0, .ref 115), (1, .int a6), (2, .int a8), (3, .int a10)]) kc_195_331 rfl rfl rfl rfl rfl A715 (Nat.le_of_ble_eq_true rfl) (hJ _ _ _ _ (by decide)) (xm_le ml_16 rfl) rfl ?_
                  refine xi_aload_n (pc' := 1) (x := 115) kc_16_0 rfl rfl ?_
                  refine xi_iconst (pc' := 2) (v := 0) kc_16_1 rfl rfl ?_
                  refine xi_putfield (pc' := 5) (fs' := [.int 0, .int u703, .ref 116, .ref 117, .ref 118, .ref 119, .ref 120, .ref 121, .ref 122, .ref 123, .ref 124, .ref 125, .ref 126, .ref 127, .ref 128, .ref 129, .int u704, .ref 130, .int u705, .ref 131, .ref 132, .ref 133, .ref 134, .int u706, .ref 135, .ref 136, .ref 137, .ref 138, .ref 139, .ref 140, .ref 141, .ref 142, .int u707, .int u708, .int u709, .ref 143, .ref 144, .ref 145, .ref 146, .ref 147, .ref 148, .int u710, .ref 149, .ref 150, .ref 151, .int u711, .ref 152, .ref 153, .ref 154, .ref 155, .ref 156, .ref 157, .ref 158, .ref 159, .int u712, .ref 160, .int u713, .ref 161, .ref 162, .ref 163, .ref 164, .int u714, .ref 165, .ref 166]) kc_16_2 rfl rfl rfl A715 rfl rfl rfl (Nat.le_of_ble_eq_true rfl) rfl (fun hh717 eh716 => ?_)
                  have K718 := xk_pf (k := 0) (v := 0) K693 (xk_wf rfl) xD_115 A715 rfl (by first | omega | decide) (by first | omega | decide) eh716 rfl
                  refine xi_iload_n (pc' := 6) (x := a8) kc_16_5 rfl rfl ?_
                  refine xi_iconst (pc' := 7) (v := 0) kc_16_6 rfl rfl ?_
                  refine xi_iconst (pc' := 8) (v := 1) kc_16_7 rfl rfl ?_
                  refine xi_static (mj := 11) (as := [.int a8, .int 0, .int 1]) (st1 := []) (lv0 := [(0, .int a8), (1, .int 0), (2, .int 1)]) kc_16_8 rfl rfl (Nat.le_of_ble_eq_true rfl) rfl rfl (Nat.le_of_ble_eq_true rfl) (hJ _ _ _ _ (by decide)) (xm_le ml_11 rfl) rfl ?_
                  refine xi_iload_n (pc' := 1) (x := a8) kc_11_0 rfl rfl ?_
                  refine xi_iload_n (pc' := 2) (x := 0) kc_11_1 rfl rfl ?_
                  refine xi_cmf (pc' := 5) kc_11_2 rfl (xc_lt_f (X := a8.toInt) (Y := 0) rfl (by decide) (by omega)) ?_
                  refine xi_iload_n (pc' := 6) (x := a8) kc_11_5 rfl rfl ?_
                  refine xi_iload_n (pc' := 7) (x := 1) kc_11_6 rfl rfl ?_
                  refine xi_cmf (pc' := 10) kc_11_7 rfl (xc_gt_f (X := a8.toInt) (Y := 1) rfl (by decide) (by omega)) ?_
                  refine xi_iconst (pc' := 11) (v := 1) kc_11_10 rfl rfl ?_
                  refine xi_goto (pc' := 15) kc_11_11 rfl ?_
                  refine xi_ireturn kc_11_15 mr_11 rfl ?_
                  show xw J ov 99 16 (11, [(0, .ref 115), (1, .int a6), (2, .int a8), (3, .int a10)], [.int 1], hh717) _
                  refine xi_ift (pc' := 21) kc_16_11 rfl rfl ?_
                  refine xi_iload_n (pc' := 22) (x := a6) kc_16_21 rfl rfl ?_
                  refine xi_iff (pc' := 25) kc_16_22 rfl (xc_lt_f (X := a6.toInt) (Y := 0) rfl (by decide) (by omega)) ?_
                  refine xi_iload_n (pc' := 26) (x := a10) kc_16_25 rfl rfl ?_
                  refine xi_iload_n (pc' := 27) (x := a8) kc_16_26 rfl rfl ?_
                  refine xi_ift (pc' := 35) kc_16_27 rfl (xc_ne_t (X := a8.toInt) (Y := 0) rfl (by decide) (by omega)) ?_
                  refine xi_iconst (pc' := 36) (v := 0) kc_16_35 rfl rfl ?_
                  refine xi_cmt (pc' := 46) kc_16_36 rfl (xc_ge_t (X := a10.toInt) (Y := 0) rfl (by decide) (by omega)) ?_
                  refine xi_iload_n (pc' := 47) (x := a6) kc_16_46 rfl rfl ?_
                  refine xi_sipush (pc' := 50) (v := 599) kc_16_47 rfl rfl ?_
                  refine xi_cmf (pc' := 53) kc_16_50 rfl (xc_gt_f (X := a6.toInt) (Y := 599) rfl (by decide) (by omega)) ?_
                  refine xi_iload_n (pc' := 54) (x := a10) kc_16_53 rfl rfl ?_
                  refine xi_iload_n (pc' := 55) (x := a8) kc_16_54 rfl rfl ?_
                  refine xi_ift (pc' := 63) kc_16_55 rfl (xc_ne_t (X := a8.toInt) (Y := 0) rfl (by decide) (by omega)) ?_
                  refine xi_bipush (pc' := 65) (v := 20) kc_16_63 rfl rfl ?_
                  refine xi_cmf (pc' := 68) kc_16_65 rfl (xc_le_f (X := a10.toInt) (Y := 20) rfl (by decide) (by omega)) ?_
                  refine xi_iload_n (pc' := 69) (x := a10) kc_16_68 rfl rfl ?_
                  refine xi_bipush (pc' := 71) (v := 99) kc_16_69 rfl rfl ?_
                  refine xi_cmt (pc' := 81) kc_16_71 rfl (xc_eq_t (X := a10.toInt) (Y := 99) rfl (by decide) (by omega)) ?_
                  refine xi_iload_n (pc' := 82) (x := a8) kc_16_81 rfl rfl ?_
                  refine xi_ift (pc' := 94) kc_16_82 rfl (xc_ne_t (X := a8.toInt) (Y := 0) rfl (by decide) (by omega)) ?_
                  refine xi_aload_n (pc' := 95) (x := 115) kc_16_94 rfl rfl ?_
                  refine xi_getfield (pc' := 98) (v := .ref 124) kc_16_95 rfl rfl rfl eh716.1 rfl ?_
                  refine xi_iload_n (pc' := 99) (x := a6) kc_16_98 rfl rfl ?_
                  have A719 := ((eh716.2.1 124 (by decide)).trans A697)
                  refine xi_iaload (pc' := 100) (v := v625) kc_16_99 rfl A719 (by decide) rfl (xi_in (by omega) (by rw [hy4]; omega)) (xE_ld H1 (by first | omega | decide) (by first | omega | decide) (by omega) ev625) ?_
                  refine xi_istore (pc' := 102) (lv' := [(4, .int v625), (0, .ref 115), (1, .int a6), (2, .int a8), (3, .int a10)]) kc_16_100 rfl rfl (xm_lt ml_16 rfl) ?_
                  refine xi_aload_n (pc' := 103) (x := 115) kc_16_102 rfl rfl ?_
                  refine xi_getfield (pc' := 106) (v := .ref 123) kc_16_103 rfl rfl rfl eh716.1 rfl ?_
                  refine xi_iload_n (pc' := 107) (x := a6) kc_16_106 rfl rfl ?_
                  refine xi_iload_n (pc' := 108) (x := a8) kc_16_107 rfl rfl ?_
                  refine xi_ift (pc' := 115) kc_16_108 rfl (xc_ne_t (X := a8.toInt) (Y := 0) rfl (by decide) (by omega)) ?_
                  refine xi_aload_n (pc' := 116) (x := 115) kc_16_115 rfl rfl ?_
                  refine xi_getfield (pc' := 119) (v := .ref 123) kc_16_116 rfl rfl rfl eh716.1 rfl ?_
                  refine xi_iload_n (pc' := 120) (x := a6) kc_16_119 rfl rfl ?_
                  obtain ⟨v720, ev720, bv720, dv720⟩ := xj_get hy2 ry2 (i := a6) (by omega) (by omega)
                  have A721 := ((eh716.2.1 123 (by decide)).trans A695)
                  refine xi_iaload (pc' := 121) (v := v720) kc_16_120 rfl A721 (by decide) rfl (xi_in (by omega) (by rw [hy2]; omega)) ev720 ?_
                  obtain ⟨y722, s722, hy722, ry722⟩ := xj_set (v := v720) hy2 ry2 a6 (by first | omega | decide) (by first | omega | decide)
                  refine xi_iastore (pc' := 122) (x' := y722) kc_16_121 rfl A721 rfl (xi_in (by omega) (by rw [hy2]; omega)) s722 (fun hh722 eh722 => ?_)
                  have K723 := xk_pa K718 (xk_wa rfl) xD_123 hy722 ry722 eh722
                  refine xi_aload_n (pc' := 123) (x := 115) kc_16_122 rfl rfl ?_
                  have A724 := ((eh722.2.1 115 (by decide)).trans eh716.1)
                  refine xi_getfield (pc' := 126) (v := .ref 124) kc_16_123 rfl rfl rfl A724 rfl ?_
                  refine xi_iload_n (pc' := 127) (x := a6) kc_16_126 rfl rfl ?_
                  refine xi_iload_n (pc' := 128) (x := a8) kc_16_127 rfl rfl ?_
                  refine xi_iconst (pc' := 129) (v := 1) kc_16_128 rfl rfl ?_
                  refine xi_cmf (pc' := 132) kc_16_129 rfl (xc_ne_f (X := a8.toInt) (Y := 1) rfl (by decide) (by omega)) ?_
                  refine xi_iload_n (pc' := 133) (x := a10) kc_16_132 rfl rfl ?_
                  refine xi_goto (pc' := 142) kc_16_133 rfl ?_
                  have A725 := ((eh722.2.1 124 (by decide)).trans A719)
                  obtain ⟨y726, s726, hy726, ry726⟩ := xj_set (v := a10) hy4 ry4 a6 (by first | omega | decide) (by first | omega | decide)
                  refine xi_iastore (pc' := 143) (x' := y726) kc_16_142 rfl A725 rfl (xi_in (by omega) (by rw [hy4]; omega)) s726 (fun hh726 eh726 => ?_)
                  have K727 := xk_pa K723 (xk_wa rfl) xD_124 hy726 ry726 eh726
                  refine xi_aload_n (pc' := 144) (x := 115) kc_16_143 rfl rfl ?_
                  refine xi_iconst (pc' := 145) (v := 0) kc_16_144 rfl rfl ?_
                  have A728 := ((eh726.2.1 115 (by decide)).trans A724)
                  refine xi_putfield (pc' := 148) (fs' := [.int 0, .int u703, .ref 116, .ref 117, .ref 118, .ref 119, .ref 120, .ref 121, .ref 122, .ref 123, .ref 124, .ref 125, .ref 126, .ref 127, .ref 128, .ref 129, .int u704, .ref 130, .int u705, .ref 131, .ref 132, .ref 133, .ref 134, .int u706, .ref 135, .ref 136, .ref 137, .ref 138, .ref 139, .ref 140, .ref 141, .ref 142, .int u707, .int u708, .int u709, .ref 143, .ref 144, .ref 145, .ref 146, .ref 147, .ref 148, .int 0, .ref 149, .ref 150, .ref 151, .int u711, .ref 152, .ref 153, .ref 154, .ref 155, .ref 156, .ref 157, .ref 158, .ref 159, .int u712, .ref 160, .int u713, .ref 161, .ref 162, .ref 163, .ref 164, .int u714, .ref 165, .ref 166]) kc_16_145 rfl rfl rfl A728 rfl rfl rfl (Nat.le_of_ble_eq_true rfl) rfl (fun hh730 eh729 => ?_)
                  have K731 := xk_pf (k := 41) (v := 0) K727 (xk_wf rfl) xD_115 A728 rfl (by first | omega | decide) (by first | omega | decide) eh729 rfl
                  refine xi_iload (pc' := 150) (x := v625) kc_16_148 rfl rfl ?_
                  refine xi_ireturn kc_16_150 mr_16 rfl ?_
                  show xw J ov 100 195 (334, [(4, .int x4), (3, .ref 167), (2, .ref 115), (1, .ref 0), (0, .ref 1000000)], [.int v625, .int r686], hh730) _
                  by_cases c732 : r686.toInt = v625.toInt
                  · refine xi_cmt (pc' := 1501) kc_195_334 rfl (xc_eq_t (X := r686.toInt) (Y := v625.toInt) rfl rfl (by omega)) ?_
                    obtain ⟨v733, ev733⟩ : ∃ q : Int32, x4 + 6 = q := ⟨_, rfl⟩
                    have zv733 : v733.toInt = (x4.toInt + 6) := by rw [← ev733]; exact (xz_add (X := x4.toInt) (Y := 6) rfl (by decide) (by omega) (by omega)).trans (by omega)
                    refine xi_iinc (pc' := 1504) (x := x4) (v := v733) (lv' := [(4, .int v733), (3, .ref 167), (2, .ref 115), (1, .ref 0), (0, .ref 1000000)]) kc_195_1501 rfl rfl ev733 rfl (xm_lt ml_195 rfl) ?_
                    refine xi_goto (pc' := 23) kc_195_1504 rfl ?_
                    have A734 := ((eh729.2.1 6 (by decide)).trans ((eh726.2.1 6 (by decide)).trans ((eh722.2.1 6 (by decide)).trans ((eh716.2.1 6 (by decide)).trans A694))))
                    have A735 := ((eh729.2.1 123 (by decide)).trans ((eh726.2.1 123 (by decide)).trans eh722.1))
                    have A736 := ((eh729.2.1 9 (by decide)).trans ((eh726.2.1 9 (by decide)).trans ((eh722.2.1 9 (by decide)).trans ((eh716.2.1 9 (by decide)).trans A696))))
                    have A737 := ((eh729.2.1 124 (by decide)).trans eh726.1)
                    exact kk v733 hh730 (by omega) K731 ⟨(xE_mk A734 A735 (xE_id H0 ev720 s722)), (xE_mk A736 A737 (xE_set H1 (by first | omega | decide) (by omega) (by omega) (by omega) s626 s726))⟩
                  · refine xi_cmf (pc' := 337) kc_195_334 rfl (xc_eq_f (X := r686.toInt) (Y := v625.toInt) rfl rfl (by omega)) ?_
                    refine xi_iconst (pc' := 338) (v := 0) kc_195_337 rfl rfl ?_
                    refine xi_ireturn kc_195_338 mr_195 rfl ?_
                    exfalso; omega
              · refine xi_cmf (pc' := 77) kc_95_74 rfl (xc_eq_f (X := a10.toInt) (Y := 99) rfl (by decide) (by omega)) ?_
                refine xi_aload_n (pc' := 78) (x := 0) kc_95_77 rfl rfl ?_
                refine xi_bipush (pc' := 80) (v := (-6)) kc_95_78 rfl rfl ?_
                refine xi_virtual (mj := 96) (as := [.int (-6)]) (st1 := []) (lv0 := [(0, .ref 0), (1, .int (-6))]) kc_95_80 rfl rfl rfl rfl rfl A13 (Nat.le_of_ble_eq_true rfl) (hJ _ _ _ _ (by decide)) (xm_le ml_96 rfl) rfl ?_
                refine xi_ldc_w (pc' := 3) (v := 1000000000) kc_96_0 rfl rfl ?_
                refine xi_aload_n (pc' := 4) (x := 0) kc_96_3 rfl rfl ?_
                refine xi_iload_n (pc' := 5) (x := (-6)) kc_96_4 rfl rfl ?_
                refine xi_virtual (mj := 90) (as := [.int (-6)]) (st1 := [.int 1000000000]) (lv0 := [(0, .ref 0), (1, .int (-6))]) kc_96_5 rfl rfl rfl rfl rfl A13 (Nat.le_of_ble_eq_true rfl) (hJ _ _ _ _ (by decide)) (xm_le ml_90 rfl) rfl ?_
                refine xi_iload_n (pc' := 1) (x := (-6)) kc_90_0 rfl rfl ?_
                refine xi_ineg (pc' := 2) (v := 6) kc_90_1 rfl rfl ?_
                refine xi_istore_n (pc' := 3) (lv' := [(2, .int 6), (0, .ref 0), (1, .int (-6))]) kc_90_2 rfl rfl (xm_lt ml_90 rfl) ?_
                refine xi_iload_n (pc' := 4) (x := 6) kc_90_3 rfl rfl ?_
                refine xi_iff (pc' := 7) kc_90_4 rfl rfl ?_
                refine xi_iload_n (pc' := 8) (x := 6) kc_90_7 rfl rfl ?_
                refine xi_aload_n (pc' := 9) (x := 0) kc_90_8 rfl rfl ?_
                refine xi_getfield (pc' := 12) (v := .ref 94) kc_90_9 rfl rfl rfl A13 rfl ?_
                obtain ⟨y738, A738, hy738, ry738⟩ := xk_arr K.1 xD_94
                refine xi_arraylength (pc' := 13) (n := 7) (v := 7) kc_90_12 rfl (xl_lenI (by decide) (by decide) A738 hy738) rfl ?_
                refine xi_cmf (pc' := 16) kc_90_13 rfl rfl ?_
                refine xi_aload_n (pc' := 17) (x := 0) kc_90_16 rfl rfl ?_
                refine xi_getfield (pc' := 20) (v := .ref 94) kc_90_17 rfl rfl rfl A13 rfl ?_
                refine xi_iload_n (pc' := 21) (x := 6) kc_90_20 rfl rfl ?_
                refine xi_dup2 (pc' := 22) kc_90_21 rfl ⟨rfl, rfl⟩ ?_
                obtain ⟨v739, ev739, bv739, dv739⟩ := xj_get hy738 ry738 (i := 6) (by decide) (by decide)
                refine xi_iaload (pc' := 23) (v := v739) kc_90_22 rfl A738 (by decide) rfl (xi_in (by decide) (by rw [hy738]; decide)) ev739 ?_
                refine xi_iconst (pc' := 24) (v := 1) kc_90_23 rfl rfl ?_
                obtain ⟨v740, ev740⟩ : ∃ q : Int32, (v739 : Int32) + 1 = q := ⟨_, rfl⟩
                have rv740 := xc_rng v740
                refine xi_iadd (pc' := 25) (v := v740) kc_90_24 rfl ev740 ?_
                obtain ⟨y741, s741, hy741, ry741⟩ := xj_set (v := v740) hy738 ry738 6 (by first | omega | decide) (by first | omega | decide)
                refine xi_iastore (pc' := 26) (x' := y741) kc_90_25 rfl A738 rfl (xi_in (by decide) (by rw [hy738]; decide)) s741 (fun hh741 eh741 => ?_)
                have K742 := xk_pa K (xk_wa rfl) xD_94 hy741 ry741 eh741
                refine xi_iload_n (pc' := 27) (x := (-6)) kc_90_26 rfl rfl ?_
                refine xi_ireturn kc_90_27 mr_90 rfl ?_
                show xw J ov 98 96 (8, [(0, .ref 0), (1, .int (-6))], [.int (-6), .int 1000000000], hh741) _
                refine xi_isub (pc' := 9) (v := 1000000006) kc_96_8 rfl rfl ?_
                refine xi_ireturn kc_96_9 mr_96 rfl ?_
                show xw J ov 99 95 (83, [(5, .int 20), (4, .int 0), (0, .ref 0), (1, .int a6), (2, .int a8), (3, .int a10)], [.int 1000000006], hh741) _
                refine xi_ireturn kc_95_83 mr_95 rfl ?_
                show xw J ov 100 195 (312, [(4, .int x4), (3, .ref 167), (2, .ref 115), (1, .ref 0), (0, .ref 1000000)], [.int 1000000006], hh741) _
                refine xi_aload_n (pc' := 313) (x := 115) kc_195_312 rfl rfl ?_
                refine xi_aload_n (pc' := 314) (x := 1000000) kc_195_313 rfl rfl ?_
                refine xi_iload (pc' := 316) (x := x4) kc_195_314 rfl rfl ?_
                refine xi_iconst (pc' := 317) (v := 1) kc_195_316 rfl rfl ?_
                refine xi_iadd (pc' := 318) (v := v5) kc_195_317 rfl ev5 ?_
                refine xi_ialoadO (pc' := 319) (v := a6) kc_195_318 rfl (by decide) hov0 (xi_in (by omega) (by omega)) ea6 ?_
                refine xi_aload_n (pc' := 320) (x := 1000000) kc_195_319 rfl rfl ?_
                refine xi_iload (pc' := 322) (x := x4) kc_195_320 rfl rfl ?_
                refine xi_iconst (pc' := 323) (v := 2) kc_195_322 rfl rfl ?_
                refine xi_iadd (pc' := 324) (v := v7) kc_195_323 rfl ev7 ?_
                refine xi_ialoadO (pc' := 325) (v := a8) kc_195_324 rfl (by decide) hov0 (xi_in (by omega) (by omega)) ea8 ?_
                refine xi_aload_n (pc' := 326) (x := 1000000) kc_195_325 rfl rfl ?_
                refine xi_iload (pc' := 328) (x := x4) kc_195_326 rfl rfl ?_
                refine xi_iconst (pc' := 329) (v := 3) kc_195_328 rfl rfl ?_
                refine xi_iadd (pc' := 330) (v := v9) kc_195_329 rfl ev9 ?_
                refine xi_ialoadO (pc' := 331) (v := a10) kc_195_330 rfl (by decide) hov0 (xi_in (by omega) (by omega)) ea10 ?_
                obtain ⟨u743, u744, u745, u746, u747, u748, u749, u750, u751, u752, u753, u754, u755, bu743, bu744, bu745, bu746, bu747, bu748, bu749, bu750, bu751, bu752, bu753, bu754, bu755, A756⟩ := xq_115 K.1
                have A757 := ((eh741.2.1 115 (by decide)).trans A756)
                refine xi_virtual (mj := 16) (as := [.int a6, .int a8, .int a10]) (st1 := [.int 1000000006]) (lv0 := [(0, .ref 115), (1, .int a6), (2, .int a8), (3, .int a10)]) kc_195_331 rfl rfl rfl rfl rfl A757 (Nat.le_of_ble_eq_true rfl) (hJ _ _ _ _ (by decide)) (xm_le ml_16 rfl) rfl ?_
                refine xi_aload_n (pc' := 1) (x := 115) kc_16_0 rfl rfl ?_
                refine xi_iconst (pc' := 2) (v := 0) kc_16_1 rfl rfl ?_
                refine xi_putfield (pc' := 5) (fs' := [.int 0, .int u744, .ref 116, .ref 117, .ref 118, .ref 119, .ref 120, .ref 121, .ref 122, .ref 123, .ref 124, .ref 125, .ref 126, .ref 127, .ref 128, .ref 129, .int u745, .ref 130, .int u746, .ref 131, .ref 132, .ref 133, .ref 134, .int u747, .ref 135, .ref 136, .ref 137, .ref 138, .ref 139, .ref 140, .ref 141, .ref 142, .int u748, .int u749, .int u750, .ref 143, .ref 144, .ref 145, .ref 146, .ref 147, .ref 148, .int u751, .ref 149, .ref 150, .ref 151, .int u752, .ref 152, .ref 153, .ref 154, .ref 155, .ref 156, .ref 157, .ref 158, .ref 159, .int u753, .ref 160, .int u754, .ref 161, .ref 162, .ref 163, .ref 164, .int u755, .ref 165, .ref 166]) kc_16_2 rfl rfl rfl A757 rfl rfl rfl (Nat.le_of_ble_eq_true rfl) rfl (fun hh759 eh758 => ?_)
                have K760 := xk_pf (k := 0) (v := 0) K742 (xk_wf rfl) xD_115 A757 rfl (by first | omega | decide) (by first | omega | decide) eh758 rfl
                refine xi_iload_n (pc' := 6) (x := a8) kc_16_5 rfl rfl ?_
                refine xi_iconst (pc' := 7) (v := 0) kc_16_6 rfl rfl ?_
                refine xi_iconst (pc' := 8) (v := 1) kc_16_7 rfl rfl ?_
                refine xi_static (mj := 11) (as := [.int a8, .int 0, .int 1]) (st1 := []) (lv0 := [(0, .int a8), (1, .int 0), (2, .int 1)]) kc_16_8 rfl rfl (Nat.le_of_ble_eq_true rfl) rfl rfl (Nat.le_of_ble_eq_true rfl) (hJ _ _ _ _ (by decide)) (xm_le ml_11 rfl) rfl ?_
                refine xi_iload_n (pc' := 1) (x := a8) kc_11_0 rfl rfl ?_
                refine xi_iload_n (pc' := 2) (x := 0) kc_11_1 rfl rfl ?_
                refine xi_cmf (pc' := 5) kc_11_2 rfl (xc_lt_f (X := a8.toInt) (Y := 0) rfl (by decide) (by omega)) ?_
                refine xi_iload_n (pc' := 6) (x := a8) kc_11_5 rfl rfl ?_
                refine xi_iload_n (pc' := 7) (x := 1) kc_11_6 rfl rfl ?_
                refine xi_cmf (pc' := 10) kc_11_7 rfl (xc_gt_f (X := a8.toInt) (Y := 1) rfl (by decide) (by omega)) ?_
                refine xi_iconst (pc' := 11) (v := 1) kc_11_10 rfl rfl ?_
                refine xi_goto (pc' := 15) kc_11_11 rfl ?_
                refine xi_ireturn kc_11_15 mr_11 rfl ?_
                show xw J ov 99 16 (11, [(0, .ref 115), (1, .int a6), (2, .int a8), (3, .int a10)], [.int 1], hh759) _
                refine xi_ift (pc' := 21) kc_16_11 rfl rfl ?_
                refine xi_iload_n (pc' := 22) (x := a6) kc_16_21 rfl rfl ?_
                refine xi_iff (pc' := 25) kc_16_22 rfl (xc_lt_f (X := a6.toInt) (Y := 0) rfl (by decide) (by omega)) ?_
                refine xi_iload_n (pc' := 26) (x := a10) kc_16_25 rfl rfl ?_
                refine xi_iload_n (pc' := 27) (x := a8) kc_16_26 rfl rfl ?_
                refine xi_ift (pc' := 35) kc_16_27 rfl (xc_ne_t (X := a8.toInt) (Y := 0) rfl (by decide) (by omega)) ?_
                refine xi_iconst (pc' := 36) (v := 0) kc_16_35 rfl rfl ?_
                refine xi_cmt (pc' := 46) kc_16_36 rfl (xc_ge_t (X := a10.toInt) (Y := 0) rfl (by decide) (by omega)) ?_
                refine xi_iload_n (pc' := 47) (x := a6) kc_16_46 rfl rfl ?_
                refine xi_sipush (pc' := 50) (v := 599) kc_16_47 rfl rfl ?_
                refine xi_cmf (pc' := 53) kc_16_50 rfl (xc_gt_f (X := a6.toInt) (Y := 599) rfl (by decide) (by omega)) ?_
                refine xi_iload_n (pc' := 54) (x := a10) kc_16_53 rfl rfl ?_
                refine xi_iload_n (pc' := 55) (x := a8) kc_16_54 rfl rfl ?_
                refine xi_ift (pc' := 63) kc_16_55 rfl (xc_ne_t (X := a8.toInt) (Y := 0) rfl (by decide) (by omega)) ?_
                refine xi_bipush (pc' := 65) (v := 20) kc_16_63 rfl rfl ?_
                refine xi_cmf (pc' := 68) kc_16_65 rfl (xc_le_f (X := a10.toInt) (Y := 20) rfl (by decide) (by omega)) ?_
                refine xi_iload_n (pc' := 69) (x := a10) kc_16_68 rfl rfl ?_
                refine xi_bipush (pc' := 71) (v := 99) kc_16_69 rfl rfl ?_
                refine xi_cmf (pc' := 74) kc_16_71 rfl (xc_eq_f (X := a10.toInt) (Y := 99) rfl (by decide) (by omega)) ?_
                refine xi_aload_n (pc' := 75) (x := 115) kc_16_74 rfl rfl ?_
                refine xi_bipush (pc' := 77) (v := (-6)) kc_16_75 rfl rfl ?_
                refine xi_virtual (mj := 17) (as := [.int (-6)]) (st1 := []) (lv0 := [(0, .ref 115), (1, .int (-6))]) kc_16_77 rfl rfl rfl rfl rfl eh758.1 (Nat.le_of_ble_eq_true rfl) (hJ _ _ _ _ (by decide)) (xm_le ml_17 rfl) rfl ?_
                refine xi_aload_n (pc' := 1) (x := 115) kc_17_0 rfl rfl ?_
                refine xi_getfield (pc' := 4) (v := .ref 140) kc_17_1 rfl rfl rfl eh758.1 rfl ?_
                refine xi_iload_n (pc' := 5) (x := (-6)) kc_17_4 rfl rfl ?_
                refine xi_ineg (pc' := 6) (v := 6) kc_17_5 rfl rfl ?_
                refine xi_dup2 (pc' := 7) kc_17_6 rfl ⟨rfl, rfl⟩ ?_
                obtain ⟨y761, A761, hy761, ry761⟩ := xk_arr K.1 xD_140
                obtain ⟨v762, ev762, bv762, dv762⟩ := xj_get hy761 ry761 (i := 6) (by decide) (by decide)
                have A763 := ((eh758.2.1 140 (by decide)).trans ((eh741.2.1 140 (by decide)).trans A761))
                refine xi_iaload (pc' := 8) (v := v762) kc_17_7 rfl A763 (by decide) rfl (xi_in (by decide) (by rw [hy761]; decide)) ev762 ?_
                refine xi_iconst (pc' := 9) (v := 1) kc_17_8 rfl rfl ?_
                obtain ⟨v764, ev764⟩ : ∃ q : Int32, (v762 : Int32) + 1 = q := ⟨_, rfl⟩
                have rv764 := xc_rng v764
                refine xi_iadd (pc' := 10) (v := v764) kc_17_9 rfl ev764 ?_
                obtain ⟨y765, s765, hy765, ry765⟩ := xj_set (v := v764) hy761 ry761 6 (by first | omega | decide) (by first | omega | decide)
                refine xi_iastore (pc' := 11) (x' := y765) kc_17_10 rfl A763 rfl (xi_in (by decide) (by rw [hy761]; decide)) s765 (fun hh765 eh765 => ?_)
                have K766 := xk_pa K760 (xk_wa rfl) xD_140 hy765 ry765 eh765
                refine xi_ldc (pc' := 13) (v := 1000000000) kc_17_11 rfl rfl ?_
                refine xi_iload_n (pc' := 14) (x := (-6)) kc_17_13 rfl rfl ?_
                refine xi_isub (pc' := 15) (v := 1000000006) kc_17_14 rfl rfl ?_
                refine xi_ireturn kc_17_15 mr_17 rfl ?_
                show xw J ov 99 16 (80, [(0, .ref 115), (1, .int a6), (2, .int a8), (3, .int a10)], [.int 1000000006], hh765) _
                refine xi_ireturn kc_16_80 mr_16 rfl ?_
                show xw J ov 100 195 (334, [(4, .int x4), (3, .ref 167), (2, .ref 115), (1, .ref 0), (0, .ref 1000000)], [.int 1000000006, .int 1000000006], hh765) _
                refine xi_cmt (pc' := 1501) kc_195_334 rfl rfl ?_
                obtain ⟨v767, ev767⟩ : ∃ q : Int32, x4 + 6 = q := ⟨_, rfl⟩
                have zv767 : v767.toInt = (x4.toInt + 6) := by rw [← ev767]; exact (xz_add (X := x4.toInt) (Y := 6) rfl (by decide) (by omega) (by omega)).trans (by omega)
                refine xi_iinc (pc' := 1504) (x := x4) (v := v767) (lv' := [(4, .int v767), (3, .ref 167), (2, .ref 115), (1, .ref 0), (0, .ref 1000000)]) kc_195_1501 rfl rfl ev767 rfl (xm_lt ml_195 rfl) ?_
                refine xi_goto (pc' := 23) kc_195_1504 rfl ?_
                have A768 := ((eh765.2.1 6 (by decide)).trans ((eh758.2.1 6 (by decide)).trans ((eh741.2.1 6 (by decide)).trans A1)))
                have A769 := ((eh765.2.1 123 (by decide)).trans ((eh758.2.1 123 (by decide)).trans ((eh741.2.1 123 (by decide)).trans A2)))
                have A770 := ((eh765.2.1 9 (by decide)).trans ((eh758.2.1 9 (by decide)).trans ((eh741.2.1 9 (by decide)).trans A3)))
                have A771 := ((eh765.2.1 124 (by decide)).trans ((eh758.2.1 124 (by decide)).trans ((eh741.2.1 124 (by decide)).trans A4)))
                exact kk v767 hh765 (by omega) K766 ⟨(xE_mk A768 A769 H0), (xE_mk A770 A771 H1)⟩
        · refine xi_cmf (pc' := 51) kc_95_48 rfl (xc_ge_f (X := a10.toInt) (Y := 0) rfl (by decide) (by omega)) ?_
          refine xi_aload_n (pc' := 52) (x := 0) kc_95_51 rfl rfl ?_
          refine xi_bipush (pc' := 54) (v := (-4)) kc_95_52 rfl rfl ?_
          refine xi_virtual (mj := 96) (as := [.int (-4)]) (st1 := []) (lv0 := [(0, .ref 0), (1, .int (-4))]) kc_95_54 rfl rfl rfl rfl rfl A13 (Nat.le_of_ble_eq_true rfl) (hJ _ _ _ _ (by decide)) (xm_le ml_96 rfl) rfl ?_
          refine xi_ldc_w (pc' := 3) (v := 1000000000) kc_96_0 rfl rfl ?_
          refine xi_aload_n (pc' := 4) (x := 0) kc_96_3 rfl rfl ?_
          refine xi_iload_n (pc' := 5) (x := (-4)) kc_96_4 rfl rfl ?_
          refine xi_virtual (mj := 90) (as := [.int (-4)]) (st1 := [.int 1000000000]) (lv0 := [(0, .ref 0), (1, .int (-4))]) kc_96_5 rfl rfl rfl rfl rfl A13 (Nat.le_of_ble_eq_true rfl) (hJ _ _ _ _ (by decide)) (xm_le ml_90 rfl) rfl ?_
          refine xi_iload_n (pc' := 1) (x := (-4)) kc_90_0 rfl rfl ?_
          refine xi_ineg (pc' := 2) (v := 4) kc_90_1 rfl rfl ?_
          refine xi_istore_n (pc' := 3) (lv' := [(2, .int 4), (0, .ref 0), (1, .int (-4))]) kc_90_2 rfl rfl (xm_lt ml_90 rfl) ?_
          refine xi_iload_n (pc' := 4) (x := 4) kc_90_3 rfl rfl ?_
          refine xi_iff (pc' := 7) kc_90_4 rfl rfl ?_
          refine xi_iload_n (pc' := 8) (x := 4) kc_90_7 rfl rfl ?_
          refine xi_aload_n (pc' := 9) (x := 0) kc_90_8 rfl rfl ?_
          refine xi_getfield (pc' := 12) (v := .ref 94) kc_90_9 rfl rfl rfl A13 rfl ?_
          obtain ⟨y772, A772, hy772, ry772⟩ := xk_arr K.1 xD_94
          refine xi_arraylength (pc' := 13) (n := 7) (v := 7) kc_90_12 rfl (xl_lenI (by decide) (by decide) A772 hy772) rfl ?_
          refine xi_cmf (pc' := 16) kc_90_13 rfl rfl ?_
          refine xi_aload_n (pc' := 17) (x := 0) kc_90_16 rfl rfl ?_
          refine xi_getfield (pc' := 20) (v := .ref 94) kc_90_17 rfl rfl rfl A13 rfl ?_
          refine xi_iload_n (pc' := 21) (x := 4) kc_90_20 rfl rfl ?_
          refine xi_dup2 (pc' := 22) kc_90_21 rfl ⟨rfl, rfl⟩ ?_
          obtain ⟨v773, ev773, bv773, dv773⟩ := xj_get hy772 ry772 (i := 4) (by decide) (by decide)
          refine xi_iaload (pc' := 23) (v := v773) kc_90_22 rfl A772 (by decide) rfl (xi_in (by decide) (by rw [hy772]; decide)) ev773 ?_
          refine xi_iconst (pc' := 24) (v := 1) kc_90_23 rfl rfl ?_
          obtain ⟨v774, ev774⟩ : ∃ q : Int32, (v773 : Int32) + 1 = q := ⟨_, rfl⟩
          have rv774 := xc_rng v774
          refine xi_iadd (pc' := 25) (v := v774) kc_90_24 rfl ev774 ?_
          obtain ⟨y775, s775, hy775, ry775⟩ := xj_set (v := v774) hy772 ry772 4 (by first | omega | decide) (by first | omega | decide)
          refine xi_iastore (pc' := 26) (x' := y775) kc_90_25 rfl A772 rfl (xi_in (by decide) (by rw [hy772]; decide)) s775 (fun hh775 eh775 => ?_)
          have K776 := xk_pa K (xk_wa rfl) xD_94 hy775 ry775 eh775
          refine xi_iload_n (pc' := 27) (x := (-4)) kc_90_26 rfl rfl ?_
          refine xi_ireturn kc_90_27 mr_90 rfl ?_
          show xw J ov 98 96 (8, [(0, .ref 0), (1, .int (-4))], [.int (-4), .int 1000000000], hh775) _
          refine xi_isub (pc' := 9) (v := 1000000004) kc_96_8 rfl rfl ?_
          refine xi_ireturn kc_96_9 mr_96 rfl ?_
          show xw J ov 99 95 (57, [(5, .int 20), (4, .int 0), (0, .ref 0), (1, .int a6), (2, .int a8), (3, .int a10)], [.int 1000000004], hh775) _
          refine xi_ireturn kc_95_57 mr_95 rfl ?_
          show xw J ov 100 195 (312, [(4, .int x4), (3, .ref 167), (2, .ref 115), (1, .ref 0), (0, .ref 1000000)], [.int 1000000004], hh775) _
          refine xi_aload_n (pc' := 313) (x := 115) kc_195_312 rfl rfl ?_
          refine xi_aload_n (pc' := 314) (x := 1000000) kc_195_313 rfl rfl ?_
          refine xi_iload (pc' := 316) (x := x4) kc_195_314 rfl rfl ?_
          refine xi_iconst (pc' := 317) (v := 1) kc_195_316 rfl rfl ?_
          refine xi_iadd (pc' := 318) (v := v5) kc_195_317 rfl ev5 ?_
          refine xi_ialoadO (pc' := 319) (v := a6) kc_195_318 rfl (by decide) hov0 (xi_in (by omega) (by omega)) ea6 ?_
          refine xi_aload_n (pc' := 320) (x := 1000000) kc_195_319 rfl rfl ?_
          refine xi_iload (pc' := 322) (x := x4) kc_195_320 rfl rfl ?_
          refine xi_iconst (pc' := 323) (v := 2) kc_195_322 rfl rfl ?_
          refine xi_iadd (pc' := 324) (v := v7) kc_195_323 rfl ev7 ?_
          refine xi_ialoadO (pc' := 325) (v := a8) kc_195_324 rfl (by decide) hov0 (xi_in (by omega) (by omega)) ea8 ?_
          refine xi_aload_n (pc' := 326) (x := 1000000) kc_195_325 rfl rfl ?_
          refine xi_iload (pc' := 328) (x := x4) kc_195_326 rfl rfl ?_
          refine xi_iconst (pc' := 329) (v := 3) kc_195_328 rfl rfl ?_
          refine xi_iadd (pc' := 330) (v := v9) kc_195_329 rfl ev9 ?_
          refine xi_ialoadO (pc' := 331) (v := a10) kc_195_330 rfl (by decide) hov0 (xi_in (by omega) (by omega)) ea10 ?_
          obtain ⟨u777, u778, u779, u780, u781, u782, u783, u784, u785, u786, u787, u788, u789, bu777, bu778, bu779, bu780, bu781, bu782, bu783, bu784, bu785, bu786, bu787, bu788, bu789, A790⟩ := xq_115 K.1
          have A791 := ((eh775.2.1 115 (by decide)).trans A790)
          refine xi_virtual (mj := 16) (as := [.int a6, .int a8, .int a10]) (st1 := [.int 1000000004]) (lv0 := [(0, .ref 115), (1, .int a6), (2, .int a8), (3, .int a10)]) kc_195_331 rfl rfl rfl rfl rfl A791 (Nat.le_of_ble_eq_true rfl) (hJ _ _ _ _ (by decide)) (xm_le ml_16 rfl) rfl ?_
          refine xi_aload_n (pc' := 1) (x := 115) kc_16_0 rfl rfl ?_
          refine xi_iconst (pc' := 2) (v := 0) kc_16_1 rfl rfl ?_
          refine xi_putfield (pc' := 5) (fs' := [.int 0, .int u778, .ref 116, .ref 117, .ref 118, .ref 119, .ref 120, .ref 121, .ref 122, .ref 123, .ref 124, .ref 125, .ref 126, .ref 127, .ref 128, .ref 129, .int u779, .ref 130, .int u780, .ref 131, .ref 132, .ref 133, .ref 134, .int u781, .ref 135, .ref 136, .ref 137, .ref 138, .ref 139, .ref 140, .ref 141, .ref 142, .int u782, .int u783, .int u784, .ref 143, .ref 144, .ref 145, .ref 146, .ref 147, .ref 148, .int u785, .ref 149, .ref 150, .ref 151, .int u786, .ref 152, .ref 153, .ref 154, .ref 155, .ref 156, .ref 157, .ref 158, .ref 159, .int u787, .ref 160, .int u788, .ref 161, .ref 162, .ref 163, .ref 164, .int u789, .ref 165, .ref 166]) kc_16_2 rfl rfl rfl A791 rfl rfl rfl (Nat.le_of_ble_eq_true rfl) rfl (fun hh793 eh792 => ?_)
          have K794 := xk_pf (k := 0) (v := 0) K776 (xk_wf rfl) xD_115 A791 rfl (by first | omega | decide) (by first | omega | decide) eh792 rfl
          refine xi_iload_n (pc' := 6) (x := a8) kc_16_5 rfl rfl ?_
          refine xi_iconst (pc' := 7) (v := 0) kc_16_6 rfl rfl ?_
          refine xi_iconst (pc' := 8) (v := 1) kc_16_7 rfl rfl ?_
          refine xi_static (mj := 11) (as := [.int a8, .int 0, .int 1]) (st1 := []) (lv0 := [(0, .int a8), (1, .int 0), (2, .int 1)]) kc_16_8 rfl rfl (Nat.le_of_ble_eq_true rfl) rfl rfl (Nat.le_of_ble_eq_true rfl) (hJ _ _ _ _ (by decide)) (xm_le ml_11 rfl) rfl ?_
          refine xi_iload_n (pc' := 1) (x := a8) kc_11_0 rfl rfl ?_
          refine xi_iload_n (pc' := 2) (x := 0) kc_11_1 rfl rfl ?_
          refine xi_cmf (pc' := 5) kc_11_2 rfl (xc_lt_f (X := a8.toInt) (Y := 0) rfl (by decide) (by omega)) ?_
          refine xi_iload_n (pc' := 6) (x := a8) kc_11_5 rfl rfl ?_
          refine xi_iload_n (pc' := 7) (x := 1) kc_11_6 rfl rfl ?_
          refine xi_cmf (pc' := 10) kc_11_7 rfl (xc_gt_f (X := a8.toInt) (Y := 1) rfl (by decide) (by omega)) ?_
          refine xi_iconst (pc' := 11) (v := 1) kc_11_10 rfl rfl ?_
          refine xi_goto (pc' := 15) kc_11_11 rfl ?_
          refine xi_ireturn kc_11_15 mr_11 rfl ?_
          show xw J ov 99 16 (11, [(0, .ref 115), (1, .int a6), (2, .int a8), (3, .int a10)], [.int 1], hh793) _
          refine xi_ift (pc' := 21) kc_16_11 rfl rfl ?_
          refine xi_iload_n (pc' := 22) (x := a6) kc_16_21 rfl rfl ?_
          refine xi_iff (pc' := 25) kc_16_22 rfl (xc_lt_f (X := a6.toInt) (Y := 0) rfl (by decide) (by omega)) ?_
          refine xi_iload_n (pc' := 26) (x := a10) kc_16_25 rfl rfl ?_
          refine xi_iload_n (pc' := 27) (x := a8) kc_16_26 rfl rfl ?_
          refine xi_ift (pc' := 35) kc_16_27 rfl (xc_ne_t (X := a8.toInt) (Y := 0) rfl (by decide) (by omega)) ?_
          refine xi_iconst (pc' := 36) (v := 0) kc_16_35 rfl rfl ?_
          refine xi_cmf (pc' := 39) kc_16_36 rfl (xc_ge_f (X := a10.toInt) (Y := 0) rfl (by decide) (by omega)) ?_
          refine xi_aload_n (pc' := 40) (x := 115) kc_16_39 rfl rfl ?_
          refine xi_bipush (pc' := 42) (v := (-4)) kc_16_40 rfl rfl ?_
          refine xi_virtual (mj := 17) (as := [.int (-4)]) (st1 := []) (lv0 := [(0, .ref 115), (1, .int (-4))]) kc_16_42 rfl rfl rfl rfl rfl eh792.1 (Nat.le_of_ble_eq_true rfl) (hJ _ _ _ _ (by decide)) (xm_le ml_17 rfl) rfl ?_
          refine xi_aload_n (pc' := 1) (x := 115) kc_17_0 rfl rfl ?_
          refine xi_getfield (pc' := 4) (v := .ref 140) kc_17_1 rfl rfl rfl eh792.1 rfl ?_
          refine xi_iload_n (pc' := 5) (x := (-4)) kc_17_4 rfl rfl ?_
          refine xi_ineg (pc' := 6) (v := 4) kc_17_5 rfl rfl ?_
          refine xi_dup2 (pc' := 7) kc_17_6 rfl ⟨rfl, rfl⟩ ?_
          obtain ⟨y795, A795, hy795, ry795⟩ := xk_arr K.1 xD_140
          obtain ⟨v796, ev796, bv796, dv796⟩ := xj_get hy795 ry795 (i := 4) (by decide) (by decide)
          have A797 := ((eh792.2.1 140 (by decide)).trans ((eh775.2.1 140 (by decide)).trans A795))
          refine xi_iaload (pc' := 8) (v := v796) kc_17_7 rfl A797 (by decide) rfl (xi_in (by decide) (by rw [hy795]; decide)) ev796 ?_
          refine xi_iconst (pc' := 9) (v := 1) kc_17_8 rfl rfl ?_
          obtain ⟨v798, ev798⟩ : ∃ q : Int32, (v796 : Int32) + 1 = q := ⟨_, rfl⟩
          have rv798 := xc_rng v798
          refine xi_iadd (pc' := 10) (v := v798) kc_17_9 rfl ev798 ?_
          obtain ⟨y799, s799, hy799, ry799⟩ := xj_set (v := v798) hy795 ry795 4 (by first | omega | decide) (by first | omega | decide)
          refine xi_iastore (pc' := 11) (x' := y799) kc_17_10 rfl A797 rfl (xi_in (by decide) (by rw [hy795]; decide)) s799 (fun hh799 eh799 => ?_)
          have K800 := xk_pa K794 (xk_wa rfl) xD_140 hy799 ry799 eh799
          refine xi_ldc (pc' := 13) (v := 1000000000) kc_17_11 rfl rfl ?_
          refine xi_iload_n (pc' := 14) (x := (-4)) kc_17_13 rfl rfl ?_
          refine xi_isub (pc' := 15) (v := 1000000004) kc_17_14 rfl rfl ?_
          refine xi_ireturn kc_17_15 mr_17 rfl ?_
          show xw J ov 99 16 (45, [(0, .ref 115), (1, .int a6), (2, .int a8), (3, .int a10)], [.int 1000000004], hh799) _
          refine xi_ireturn kc_16_45 mr_16 rfl ?_
          show xw J ov 100 195 (334, [(4, .int x4), (3, .ref 167), (2, .ref 115), (1, .ref 0), (0, .ref 1000000)], [.int 1000000004, .int 1000000004], hh799) _
          refine xi_cmt (pc' := 1501) kc_195_334 rfl rfl ?_
          obtain ⟨v801, ev801⟩ : ∃ q : Int32, x4 + 6 = q := ⟨_, rfl⟩
          have zv801 : v801.toInt = (x4.toInt + 6) := by rw [← ev801]; exact (xz_add (X := x4.toInt) (Y := 6) rfl (by decide) (by omega) (by omega)).trans (by omega)
          refine xi_iinc (pc' := 1504) (x := x4) (v := v801) (lv' := [(4, .int v801), (3, .ref 167), (2, .ref 115), (1, .ref 0), (0, .ref 1000000)]) kc_195_1501 rfl rfl ev801 rfl (xm_lt ml_195 rfl) ?_
          refine xi_goto (pc' := 23) kc_195_1504 rfl ?_
          have A802 := ((eh799.2.1 6 (by decide)).trans ((eh792.2.1 6 (by decide)).trans ((eh775.2.1 6 (by decide)).trans A1)))
          have A803 := ((eh799.2.1 123 (by decide)).trans ((eh792.2.1 123 (by decide)).trans ((eh775.2.1 123 (by decide)).trans A2)))
          have A804 := ((eh799.2.1 9 (by decide)).trans ((eh792.2.1 9 (by decide)).trans ((eh775.2.1 9 (by decide)).trans A3)))
          have A805 := ((eh799.2.1 124 (by decide)).trans ((eh792.2.1 124 (by decide)).trans ((eh775.2.1 124 (by decide)).trans A4)))
          exact kk v801 hh799 (by omega) K800 ⟨(xE_mk A802 A803 H0), (xE_mk A804 A805 H1)⟩
    · refine xi_cmf (pc' := 9) kc_95_6 rfl (xc_eq_f (X := a8.toInt) (Y := 1) rfl (by decide) (by omega)) ?_
      refine xi_aload_n (pc' := 10) (x := 0) kc_95_9 rfl rfl ?_
      refine xi_bipush (pc' := 12) (v := (-2)) kc_95_10 rfl rfl ?_
      refine xi_virtual (mj := 96) (as := [.int (-2)]) (st1 := []) (lv0 := [(0, .ref 0), (1, .int (-2))]) kc_95_12 rfl rfl rfl rfl rfl A13 (Nat.le_of_ble_eq_true rfl) (hJ _ _ _ _ (by decide)) (xm_le ml_96 rfl) rfl ?_
      refine xi_ldc_w (pc' := 3) (v := 1000000000) kc_96_0 rfl rfl ?_
      refine xi_aload_n (pc' := 4) (x := 0) kc_96_3 rfl rfl ?_
      refine xi_iload_n (pc' := 5) (x := (-2)) kc_96_4 rfl rfl ?_
      refine xi_virtual (mj := 90) (as := [.int (-2)]) (st1 := [.int 1000000000]) (lv0 := [(0, .ref 0), (1, .int (-2))]) kc_96_5 rfl rfl rfl rfl rfl A13 (Nat.le_of_ble_eq_true rfl) (hJ _ _ _ _ (by decide)) (xm_le ml_90 rfl) rfl ?_
      refine xi_iload_n (pc' := 1) (x := (-2)) kc_90_0 rfl rfl ?_
      refine xi_ineg (pc' := 2) (v := 2) kc_90_1 rfl rfl ?_
      refine xi_istore_n (pc' := 3) (lv' := [(2, .int 2), (0, .ref 0), (1, .int (-2))]) kc_90_2 rfl rfl (xm_lt ml_90 rfl) ?_
      refine xi_iload_n (pc' := 4) (x := 2) kc_90_3 rfl rfl ?_
      refine xi_iff (pc' := 7) kc_90_4 rfl rfl ?_
      refine xi_iload_n (pc' := 8) (x := 2) kc_90_7 rfl rfl ?_
      refine xi_aload_n (pc' := 9) (x := 0) kc_90_8 rfl rfl ?_
      refine xi_getfield (pc' := 12) (v := .ref 94) kc_90_9 rfl rfl rfl A13 rfl ?_
      obtain ⟨y806, A806, hy806, ry806⟩ := xk_arr K.1 xD_94
      refine xi_arraylength (pc' := 13) (n := 7) (v := 7) kc_90_12 rfl (xl_lenI (by decide) (by decide) A806 hy806) rfl ?_
      refine xi_cmf (pc' := 16) kc_90_13 rfl rfl ?_
      refine xi_aload_n (pc' := 17) (x := 0) kc_90_16 rfl rfl ?_
      refine xi_getfield (pc' := 20) (v := .ref 94) kc_90_17 rfl rfl rfl A13 rfl ?_
      refine xi_iload_n (pc' := 21) (x := 2) kc_90_20 rfl rfl ?_
      refine xi_dup2 (pc' := 22) kc_90_21 rfl ⟨rfl, rfl⟩ ?_
      obtain ⟨v807, ev807, bv807, dv807⟩ := xj_get hy806 ry806 (i := 2) (by decide) (by decide)
      refine xi_iaload (pc' := 23) (v := v807) kc_90_22 rfl A806 (by decide) rfl (xi_in (by decide) (by rw [hy806]; decide)) ev807 ?_
      refine xi_iconst (pc' := 24) (v := 1) kc_90_23 rfl rfl ?_
      obtain ⟨v808, ev808⟩ : ∃ q : Int32, (v807 : Int32) + 1 = q := ⟨_, rfl⟩
      have rv808 := xc_rng v808
      refine xi_iadd (pc' := 25) (v := v808) kc_90_24 rfl ev808 ?_
      obtain ⟨y809, s809, hy809, ry809⟩ := xj_set (v := v808) hy806 ry806 2 (by first | omega | decide) (by first | omega | decide)
      refine xi_iastore (pc' := 26) (x' := y809) kc_90_25 rfl A806 rfl (xi_in (by decide) (by rw [hy806]; decide)) s809 (fun hh809 eh809 => ?_)
      have K810 := xk_pa K (xk_wa rfl) xD_94 hy809 ry809 eh809
      refine xi_iload_n (pc' := 27) (x := (-2)) kc_90_26 rfl rfl ?_
      refine xi_ireturn kc_90_27 mr_90 rfl ?_
      show xw J ov 98 96 (8, [(0, .ref 0), (1, .int (-2))], [.int (-2), .int 1000000000], hh809) _
      refine xi_isub (pc' := 9) (v := 1000000002) kc_96_8 rfl rfl ?_
      refine xi_ireturn kc_96_9 mr_96 rfl ?_
      show xw J ov 99 95 (15, [(0, .ref 0), (1, .int a6), (2, .int a8), (3, .int a10)], [.int 1000000002], hh809) _
      refine xi_ireturn kc_95_15 mr_95 rfl ?_
      show xw J ov 100 195 (312, [(4, .int x4), (3, .ref 167), (2, .ref 115), (1, .ref 0), (0, .ref 1000000)], [.int 1000000002], hh809) _
      refine xi_aload_n (pc' := 313) (x := 115) kc_195_312 rfl rfl ?_
      refine xi_aload_n (pc' := 314) (x := 1000000) kc_195_313 rfl rfl ?_
      refine xi_iload (pc' := 316) (x := x4) kc_195_314 rfl rfl ?_
      refine xi_iconst (pc' := 317) (v := 1) kc_195_316 rfl rfl ?_
      refine xi_iadd (pc' := 318) (v := v5) kc_195_317 rfl ev5 ?_
      refine xi_ialoadO (pc' := 319) (v := a6) kc_195_318 rfl (by decide) hov0 (xi_in (by omega) (by omega)) ea6 ?_
      refine xi_aload_n (pc' := 320) (x := 1000000) kc_195_319 rfl rfl ?_
      refine xi_iload (pc' := 322) (x := x4) kc_195_320 rfl rfl ?_
      refine xi_iconst (pc' := 323) (v := 2) kc_195_322 rfl rfl ?_
      refine xi_iadd (pc' := 324) (v := v7) kc_195_323 rfl ev7 ?_
      refine xi_ialoadO (pc' := 325) (v := a8) kc_195_324 rfl (by decide) hov0 (xi_in (by omega) (by omega)) ea8 ?_
      refine xi_aload_n (pc' := 326) (x := 1000000) kc_195_325 rfl rfl ?_
      refine xi_iload (pc' := 328) (x := x4) kc_195_326 rfl rfl ?_
      refine xi_iconst (pc' := 329) (v := 3) kc_195_328 rfl rfl ?_
      refine xi_iadd (pc' := 330) (v := v9) kc_195_329 rfl ev9 ?_
      refine xi_ialoadO (pc' := 331) (v := a10) kc_195_330 rfl (by decide) hov0 (xi_in (by omega) (by omega)) ea10 ?_
      obtain ⟨u811, u812, u813, u814, u815, u816, u817, u818, u819, u820, u821, u822, u823, bu811, bu812, bu813, bu814, bu815, bu816, bu817, bu818, bu819, bu820, bu821, bu822, bu823, A824⟩ := xq_115 K.1
      have A825 := ((eh809.2.1 115 (by decide)).trans A824)
      refine xi_virtual (mj := 16) (as := [.int a6, .int a8, .int a10]) (st1 := [.int 1000000002]) (lv0 := [(0, .ref 115), (1, .int a6), (2, .int a8), (3, .int a10)]) kc_195_331 rfl rfl rfl rfl rfl A825 (Nat.le_of_ble_eq_true rfl) (hJ _ _ _ _ (by decide)) (xm_le ml_16 rfl) rfl ?_
      refine xi_aload_n (pc' := 1) (x := 115) kc_16_0 rfl rfl ?_
      refine xi_iconst (pc' := 2) (v := 0) kc_16_1 rfl rfl ?_
      refine xi_putfield (pc' := 5) (fs' := [.int 0, .int u812, .ref 116, .ref 117, .ref 118, .ref 119, .ref 120, .ref 121, .ref 122, .ref 123, .ref 124, .ref 125, .ref 126, .ref 127, .ref 128, .ref 129, .int u813, .ref 130, .int u814, .ref 131, .ref 132, .ref 133, .ref 134, .int u815, .ref 135, .ref 136, .ref 137, .ref 138, .ref 139, .ref 140, .ref 141, .ref 142, .int u816, .int u817, .int u818, .ref 143, .ref 144, .ref 145, .ref 146, .ref 147, .ref 148, .int u819, .ref 149, .ref 150, .ref 151, .int u820, .ref 152, .ref 153, .ref 154, .ref 155, .ref 156, .ref 157, .ref 158, .ref 159, .int u821, .ref 160, .int u822, .ref 161, .ref 162, .ref 163, .ref 164, .int u823, .ref 165, .ref 166]) kc_16_2 rfl rfl rfl A825 rfl rfl rfl (Nat.le_of_ble_eq_true rfl) rfl (fun hh827 eh826 => ?_)
      have K828 := xk_pf (k := 0) (v := 0) K810 (xk_wf rfl) xD_115 A825 rfl (by first | omega | decide) (by first | omega | decide) eh826 rfl
      refine xi_iload_n (pc' := 6) (x := a8) kc_16_5 rfl rfl ?_
      refine xi_iconst (pc' := 7) (v := 0) kc_16_6 rfl rfl ?_
      refine xi_iconst (pc' := 8) (v := 1) kc_16_7 rfl rfl ?_
      refine xi_static (mj := 11) (as := [.int a8, .int 0, .int 1]) (st1 := []) (lv0 := [(0, .int a8), (1, .int 0), (2, .int 1)]) kc_16_8 rfl rfl (Nat.le_of_ble_eq_true rfl) rfl rfl (Nat.le_of_ble_eq_true rfl) (hJ _ _ _ _ (by decide)) (xm_le ml_11 rfl) rfl ?_
      refine xi_iload_n (pc' := 1) (x := a8) kc_11_0 rfl rfl ?_
      refine xi_iload_n (pc' := 2) (x := 0) kc_11_1 rfl rfl ?_
      by_cases c829 : a8.toInt < 0
      · refine xi_cmt (pc' := 14) kc_11_2 rfl (xc_lt_t (X := a8.toInt) (Y := 0) rfl (by decide) (by omega)) ?_
        refine xi_iconst (pc' := 15) (v := 0) kc_11_14 rfl rfl ?_
        refine xi_ireturn kc_11_15 mr_11 rfl ?_
        show xw J ov 99 16 (11, [(0, .ref 115), (1, .int a6), (2, .int a8), (3, .int a10)], [.int 0], hh827) _
        refine xi_iff (pc' := 14) kc_16_11 rfl rfl ?_
        refine xi_aload_n (pc' := 15) (x := 115) kc_16_14 rfl rfl ?_
        refine xi_bipush (pc' := 17) (v := (-2)) kc_16_15 rfl rfl ?_
        refine xi_virtual (mj := 17) (as := [.int (-2)]) (st1 := []) (lv0 := [(0, .ref 115), (1, .int (-2))]) kc_16_17 rfl rfl rfl rfl rfl eh826.1 (Nat.le_of_ble_eq_true rfl) (hJ _ _ _ _ (by decide)) (xm_le ml_17 rfl) rfl ?_
        refine xi_aload_n (pc' := 1) (x := 115) kc_17_0 rfl rfl ?_
        refine xi_getfield (pc' := 4) (v := .ref 140) kc_17_1 rfl rfl rfl eh826.1 rfl ?_
        refine xi_iload_n (pc' := 5) (x := (-2)) kc_17_4 rfl rfl ?_
        refine xi_ineg (pc' := 6) (v := 2) kc_17_5 rfl rfl ?_
        refine xi_dup2 (pc' := 7) kc_17_6 rfl ⟨rfl, rfl⟩ ?_
        obtain ⟨y830, A830, hy830, ry830⟩ := xk_arr K.1 xD_140
        obtain ⟨v831, ev831, bv831, dv831⟩ := xj_get hy830 ry830 (i := 2) (by decide) (by decide)
        have A832 := ((eh826.2.1 140 (by decide)).trans ((eh809.2.1 140 (by decide)).trans A830))
        refine xi_iaload (pc' := 8) (v := v831) kc_17_7 rfl A832 (by decide) rfl (xi_in (by decide) (by rw [hy830]; decide)) ev831 ?_
        refine xi_iconst (pc' := 9) (v := 1) kc_17_8 rfl rfl ?_
        obtain ⟨v833, ev833⟩ : ∃ q : Int32, (v831 : Int32) + 1 = q := ⟨_, rfl⟩
        have rv833 := xc_rng v833
        refine xi_iadd (pc' := 10) (v := v833) kc_17_9 rfl ev833 ?_
        obtain ⟨y834, s834, hy834, ry834⟩ := xj_set (v := v833) hy830 ry830 2 (by first | omega | decide) (by first | omega | decide)
        refine xi_iastore (pc' := 11) (x' := y834) kc_17_10 rfl A832 rfl (xi_in (by decide) (by rw [hy830]; decide)) s834 (fun hh834 eh834 => ?_)
        have K835 := xk_pa K828 (xk_wa rfl) xD_140 hy834 ry834 eh834
        refine xi_ldc (pc' := 13) (v := 1000000000) kc_17_11 rfl rfl ?_
        refine xi_iload_n (pc' := 14) (x := (-2)) kc_17_13 rfl rfl ?_
        refine xi_isub (pc' := 15) (v := 1000000002) kc_17_14 rfl rfl ?_
        refine xi_ireturn kc_17_15 mr_17 rfl ?_
        show xw J ov 99 16 (20, [(0, .ref 115), (1, .int a6), (2, .int a8), (3, .int a10)], [.int 1000000002], hh834) _
        refine xi_ireturn kc_16_20 mr_16 rfl ?_
        show xw J ov 100 195 (334, [(4, .int x4), (3, .ref 167), (2, .ref 115), (1, .ref 0), (0, .ref 1000000)], [.int 1000000002, .int 1000000002], hh834) _
        refine xi_cmt (pc' := 1501) kc_195_334 rfl rfl ?_
        obtain ⟨v836, ev836⟩ : ∃ q : Int32, x4 + 6 = q := ⟨_, rfl⟩
        have zv836 : v836.toInt = (x4.toInt + 6) := by rw [← ev836]; exact (xz_add (X := x4.toInt) (Y := 6) rfl (by decide) (by omega) (by omega)).trans (by omega)
        refine xi_iinc (pc' := 1504) (x := x4) (v := v836) (lv' := [(4, .int v836), (3, .ref 167), (2, .ref 115), (1, .ref 0), (0, .ref 1000000)]) kc_195_1501 rfl rfl ev836 rfl (xm_lt ml_195 rfl) ?_
        refine xi_goto (pc' := 23) kc_195_1504 rfl ?_
        have A837 := ((eh834.2.1 6 (by decide)).trans ((eh826.2.1 6 (by decide)).trans ((eh809.2.1 6 (by decide)).trans A1)))
        have A838 := ((eh834.2.1 123 (by decide)).trans ((eh826.2.1 123 (by decide)).trans ((eh809.2.1 123 (by decide)).trans A2)))
        have A839 := ((eh834.2.1 9 (by decide)).trans ((eh826.2.1 9 (by decide)).trans ((eh809.2.1 9 (by decide)).trans A3)))
        have A840 := ((eh834.2.1 124 (by decide)).trans ((eh826.2.1 124 (by decide)).trans ((eh809.2.1 124 (by decide)).trans A4)))
        exact kk v836 hh834 (by omega) K835 ⟨(xE_mk A837 A838 H0), (xE_mk A839 A840 H1)⟩
      · refine xi_cmf (pc' := 5) kc_11_2 rfl (xc_lt_f (X := a8.toInt) (Y := 0) rfl (by decide) (by omega)) ?_
        refine xi_iload_n (pc' := 6) (x := a8) kc_11_5 rfl rfl ?_
        refine xi_iload_n (pc' := 7) (x := 1) kc_11_6 rfl rfl ?_
        refine xi_cmt (pc' := 14) kc_11_7 rfl (xc_gt_t (X := a8.toInt) (Y := 1) rfl (by decide) (by omega)) ?_
        refine xi_iconst (pc' := 15) (v := 0) kc_11_14 rfl rfl ?_
        refine xi_ireturn kc_11_15 mr_11 rfl ?_
        show xw J ov 99 16 (11, [(0, .ref 115), (1, .int a6), (2, .int a8), (3, .int a10)], [.int 0], hh827) _
        refine xi_iff (pc' := 14) kc_16_11 rfl rfl ?_
        refine xi_aload_n (pc' := 15) (x := 115) kc_16_14 rfl rfl ?_
        refine xi_bipush (pc' := 17) (v := (-2)) kc_16_15 rfl rfl ?_
        refine xi_virtual (mj := 17) (as := [.int (-2)]) (st1 := []) (lv0 := [(0, .ref 115), (1, .int (-2))]) kc_16_17 rfl rfl rfl rfl rfl eh826.1 (Nat.le_of_ble_eq_true rfl) (hJ _ _ _ _ (by decide)) (xm_le ml_17 rfl) rfl ?_
        refine xi_aload_n (pc' := 1) (x := 115) kc_17_0 rfl rfl ?_
        refine xi_getfield (pc' := 4) (v := .ref 140) kc_17_1 rfl rfl rfl eh826.1 rfl ?_
        refine xi_iload_n (pc' := 5) (x := (-2)) kc_17_4 rfl rfl ?_
        refine xi_ineg (pc' := 6) (v := 2) kc_17_5 rfl rfl ?_
        refine xi_dup2 (pc' := 7) kc_17_6 rfl ⟨rfl, rfl⟩ ?_
        obtain ⟨y841, A841, hy841, ry841⟩ := xk_arr K.1 xD_140
        obtain ⟨v842, ev842, bv842, dv842⟩ := xj_get hy841 ry841 (i := 2) (by decide) (by decide)
        have A843 := ((eh826.2.1 140 (by decide)).trans ((eh809.2.1 140 (by decide)).trans A841))
        refine xi_iaload (pc' := 8) (v := v842) kc_17_7 rfl A843 (by decide) rfl (xi_in (by decide) (by rw [hy841]; decide)) ev842 ?_
        refine xi_iconst (pc' := 9) (v := 1) kc_17_8 rfl rfl ?_
        obtain ⟨v844, ev844⟩ : ∃ q : Int32, (v842 : Int32) + 1 = q := ⟨_, rfl⟩
        have rv844 := xc_rng v844
        refine xi_iadd (pc' := 10) (v := v844) kc_17_9 rfl ev844 ?_
        obtain ⟨y845, s845, hy845, ry845⟩ := xj_set (v := v844) hy841 ry841 2 (by first | omega | decide) (by first | omega | decide)
        refine xi_iastore (pc' := 11) (x' := y845) kc_17_10 rfl A843 rfl (xi_in (by decide) (by rw [hy841]; decide)) s845 (fun hh845 eh845 => ?_)
        have K846 := xk_pa K828 (xk_wa rfl) xD_140 hy845 ry845 eh845
        refine xi_ldc (pc' := 13) (v := 1000000000) kc_17_11 rfl rfl ?_
        refine xi_iload_n (pc' := 14) (x := (-2)) kc_17_13 rfl rfl ?_
        refine xi_isub (pc' := 15) (v := 1000000002) kc_17_14 rfl rfl ?_
        refine xi_ireturn kc_17_15 mr_17 rfl ?_
        show xw J ov 99 16 (20, [(0, .ref 115), (1, .int a6), (2, .int a8), (3, .int a10)], [.int 1000000002], hh845) _
        refine xi_ireturn kc_16_20 mr_16 rfl ?_
        show xw J ov 100 195 (334, [(4, .int x4), (3, .ref 167), (2, .ref 115), (1, .ref 0), (0, .ref 1000000)], [.int 1000000002, .int 1000000002], hh845) _
        refine xi_cmt (pc' := 1501) kc_195_334 rfl rfl ?_
        obtain ⟨v847, ev847⟩ : ∃ q : Int32, x4 + 6 = q := ⟨_, rfl⟩
        have zv847 : v847.toInt = (x4.toInt + 6) := by rw [← ev847]; exact (xz_add (X := x4.toInt) (Y := 6) rfl (by decide) (by omega) (by omega)).trans (by omega)
        refine xi_iinc (pc' := 1504) (x := x4) (v := v847) (lv' := [(4, .int v847), (3, .ref 167), (2, .ref 115), (1, .ref 0), (0, .ref 1000000)]) kc_195_1501 rfl rfl ev847 rfl (xm_lt ml_195 rfl) ?_
        refine xi_goto (pc' := 23) kc_195_1504 rfl ?_
        have A848 := ((eh845.2.1 6 (by decide)).trans ((eh826.2.1 6 (by decide)).trans ((eh809.2.1 6 (by decide)).trans A1)))
        have A849 := ((eh845.2.1 123 (by decide)).trans ((eh826.2.1 123 (by decide)).trans ((eh809.2.1 123 (by decide)).trans A2)))
        have A850 := ((eh845.2.1 9 (by decide)).trans ((eh826.2.1 9 (by decide)).trans ((eh809.2.1 9 (by decide)).trans A3)))
        have A851 := ((eh845.2.1 124 (by decide)).trans ((eh826.2.1 124 (by decide)).trans ((eh809.2.1 124 (by decide)).trans A4)))
        exact kk v847 hh845 (by omega) K846 ⟨(xE_mk A848 A849 H0), (xE_mk A850 A851 H1)⟩
set_option maxHeartbeats 8000000 in
theorem lc_3 {J : xe_J} {ov : List (List Int32)} (hJ : ∀ d mj as h, mj ≠ xe_loff → J d mj as h = none) (hov1 : ov[1]? = some [10, 0, 0, 0, 0, 0]) (hov2 : ov[2]? = some [99, 30, 50, 50, 1, 99999]) {xs : List Int32} (hov0 : ov[0]? = some xs) {Q : Option Value → xe_H → Prop} {h : xe_H} {x4 : Int32} (hi0 : 0 ≤ x4.toInt) (hi1 : x4.toInt + 6 ≤ xs.length) (hi2 : x4.toInt ≤ 3066) (T : xt h) (kk : ∀ (i : Int32) (h' : xe_H), i.toInt = x4.toInt + 6 → xk [(6, 0), (123, 0), (9, 0), (124, 0)] h h' → xw J ov 100 195 (23, [(4, .int i), (3, .ref 167), (2, .ref 115), (1, .ref 0), (0, .ref 1000000)], [], h') Q) : xw J ov 100 195 (339, [(4, .int x4), (3, .ref 167), (2, .ref 115), (1, .ref 0), (0, .ref 1000000)], [], h) Q := by
  have K : xk [(6, 0), (123, 0), (9, 0), (124, 0)] h h := xk_re T
  refine xi_aload_n (pc' := 340) (x := 0) kc_195_339 rfl rfl ?_
  refine xi_aload_n (pc' := 341) (x := 1000000) kc_195_340 rfl rfl ?_
  refine xi_iload (pc' := 343) (x := x4) kc_195_341 rfl rfl ?_
  refine xi_iconst (pc' := 344) (v := 1) kc_195_343 rfl rfl ?_
  obtain ⟨v1, ev1⟩ : ∃ q : Int32, x4 + 1 = q := ⟨_, rfl⟩
  have zv1 : v1.toInt = (x4.toInt + 1) := by rw [← ev1]; exact (xz_add (X := x4.toInt) (Y := 1) rfl (by decide) (by omega) (by omega)).trans (by omega)
  refine xi_iadd (pc' := 345) (v := v1) kc_195_344 rfl ev1 ?_
  obtain ⟨a2, ea2⟩ : ∃ q : Int32, xs.getD (Int32.toNatClampNeg v1) 0 = q := ⟨_, rfl⟩
  have ra2 := xc_rng a2
  refine xi_ialoadO (pc' := 346) (v := a2) kc_195_345 rfl (by decide) hov0 (xi_in (by omega) (by omega)) ea2 ?_
  refine xi_aload_n (pc' := 347) (x := 1000000) kc_195_346 rfl rfl ?_
  refine xi_iload (pc' := 349) (x := x4) kc_195_347 rfl rfl ?_
  refine xi_iconst (pc' := 350) (v := 2) kc_195_349 rfl rfl ?_
  obtain ⟨v3, ev3⟩ : ∃ q : Int32, x4 + 2 = q := ⟨_, rfl⟩
  have zv3 : v3.toInt = (x4.toInt + 2) := by rw [← ev3]; exact (xz_add (X := x4.toInt) (Y := 2) rfl (by decide) (by omega) (by omega)).trans (by omega)
  refine xi_iadd (pc' := 351) (v := v3) kc_195_350 rfl ev3 ?_
  obtain ⟨a4, ea4⟩ : ∃ q : Int32, xs.getD (Int32.toNatClampNeg v3) 0 = q := ⟨_, rfl⟩
  have ra4 := xc_rng a4
  refine xi_ialoadO (pc' := 352) (v := a4) kc_195_351 rfl (by decide) hov0 (xi_in (by omega) (by omega)) ea4 ?_
  obtain ⟨u5, u6, bu5, bu6, A7⟩ := xq_0 K.1
  refine xi_virtual (mj := 100) (as := [.int a2, .int a4]) (st1 := []) (lv0 := [(0, .ref 0), (1, .int a2), (2, .int a4)]) kc_195_352 rfl rfl rfl rfl rfl A7 (Nat.le_of_ble_eq_true rfl) (hJ _ _ _ _ (by decide)) (xm_le ml_100 rfl) rfl ?_
  refine mt_100_0 hJ hov1 hov2 (d := 97) (x1 := a2) (x2 := a4) K.1 (fun r8 hh9 K10 => ?_)
  have br8 := xc_rng r8
  have K11 := xk_tr K K10 rfl
  obtain ⟨u12, u13, bu12, bu13, A14⟩ := xq_0 K11.1
  have e15 : u6 = u13 := xk_eqi (q := 9) K10 rfl A7 A14 rfl rfl
  subst e15
  show xw J ov 100 195 (355, [(4, .int x4), (3, .ref 167), (2, .ref 115), (1, .ref 0), (0, .ref 1000000)], [.int r8], hh9) _
  refine xi_pop (pc' := 356) kc_195_355 rfl rfl ?_
  refine xi_aload_n (pc' := 357) (x := 115) kc_195_356 rfl rfl ?_
  refine xi_aload_n (pc' := 358) (x := 1000000) kc_195_357 rfl rfl ?_
  refine xi_iload (pc' := 360) (x := x4) kc_195_358 rfl rfl ?_
  refine xi_iconst (pc' := 361) (v := 1) kc_195_360 rfl rfl ?_
  refine xi_iadd (pc' := 362) (v := v1) kc_195_361 rfl ev1 ?_
  refine xi_ialoadO (pc' := 363) (v := a2) kc_195_362 rfl (by decide) hov0 (xi_in (by omega) (by omega)) ea2 ?_
  refine xi_aload_n (pc' := 364) (x := 1000000) kc_195_363 rfl rfl ?_
  refine xi_iload (pc' := 366) (x := x4) kc_195_364 rfl rfl ?_
  refine xi_iconst (pc' := 367) (v := 2) kc_195_366 rfl rfl ?_
  refine xi_iadd (pc' := 368) (v := v3) kc_195_367 rfl ev3 ?_
  refine xi_ialoadO (pc' := 369) (v := a4) kc_195_368 rfl (by decide) hov0 (xi_in (by omega) (by omega)) ea4 ?_
  obtain ⟨u16, u17, u18, u19, u20, u21, u22, u23, u24, u25, u26, u27, u28, bu16, bu17, bu18, bu19, bu20, bu21, bu22, bu23, bu24, bu25, bu26, bu27, bu28, A29⟩ := xq_115 K11.1
  refine xi_virtual (mj := 18) (as := [.int a2, .int a4]) (st1 := []) (lv0 := [(0, .ref 115), (1, .int a2), (2, .int a4)]) kc_195_369 rfl rfl rfl rfl rfl A29 (Nat.le_of_ble_eq_true rfl) (hJ _ _ _ _ (by decide)) (xm_le ml_18 rfl) rfl ?_
  refine mt_18_0 hJ hov1 hov2 (d := 97) (x1 := a2) (x2 := a4) K11.1 (fun r30 hh31 K32 => ?_)
  have br30 := xc_rng r30
  have K33 := xk_tr K11 K32 rfl
  obtain ⟨u34, u35, bu34, bu35, A36⟩ := xq_0 K33.1
  have e37 : u6 = u35 := xk_eqi (q := 9) K32 rfl A14 A36 rfl rfl
  subst e37
  obtain ⟨u38, u39, u40, u41, u42, u43, u44, u45, u46, u47, u48, u49, u50, bu38, bu39, bu40, bu41, bu42, bu43, bu44, bu45, bu46, bu47, bu48, bu49, bu50, A51⟩ := xq_115 K33.1
  have e52 : u17 = u39 := xk_eqi (q := 1) K32 rfl A29 A51 rfl rfl
  subst e52
  show xw J ov 100 195 (372, [(4, .int x4), (3, .ref 167), (2, .ref 115), (1, .ref 0), (0, .ref 1000000)], [.int r30], hh31) _
  refine xi_pop (pc' := 373) kc_195_372 rfl rfl ?_
  refine xi_goto (pc' := 1501) kc_195_373 rfl ?_
  obtain ⟨v53, ev53⟩ : ∃ q : Int32, x4 + 6 = q := ⟨_, rfl⟩
  have zv53 : v53.toInt = (x4.toInt + 6) := by rw [← ev53]; exact (xz_add (X := x4.toInt) (Y := 6) rfl (by decide) (by omega) (by omega)).trans (by omega)
  refine xi_iinc (pc' := 1504) (x := x4) (v := v53) (lv' := [(4, .int v53), (3, .ref 167), (2, .ref 115), (1, .ref 0), (0, .ref 1000000)]) kc_195_1501 rfl rfl ev53 rfl (xm_lt ml_195 rfl) ?_
  refine xi_goto (pc' := 23) kc_195_1504 rfl ?_
  exact kk v53 hh31 (by omega) K33
set_option maxHeartbeats 8000000 in
theorem lc_4 {J : xe_J} {ov : List (List Int32)} (hJ : ∀ d mj as h, mj ≠ xe_loff → J d mj as h = none) (hov1 : ov[1]? = some [10, 0, 0, 0, 0, 0]) (hov2 : ov[2]? = some [99, 30, 50, 50, 1, 99999]) {xs : List Int32} (hov0 : ov[0]? = some xs) {Q : Option Value → xe_H → Prop} {h : xe_H} {x4 : Int32} (hi0 : 0 ≤ x4.toInt) (hi1 : x4.toInt + 6 ≤ xs.length) (hi2 : x4.toInt ≤ 3066) (T : xt h) (kk : ∀ (i : Int32) (h' : xe_H), i.toInt = x4.toInt + 6 → xk [(6, 0), (123, 0), (9, 0), (124, 0)] h h' → xw J ov 100 195 (23, [(4, .int i), (3, .ref 167), (2, .ref 115), (1, .ref 0), (0, .ref 1000000)], [], h') Q) : xw J ov 100 195 (376, [(4, .int x4), (3, .ref 167), (2, .ref 115), (1, .ref 0), (0, .ref 1000000)], [], h) Q := by
  have K : xk [(6, 0), (123, 0), (9, 0), (124, 0)] h h := xk_re T
  refine xi_aload_n (pc' := 377) (x := 0) kc_195_376 rfl rfl ?_
  refine xi_aload_n (pc' := 378) (x := 1000000) kc_195_377 rfl rfl ?_
  refine xi_iload (pc' := 380) (x := x4) kc_195_378 rfl rfl ?_
  refine xi_iconst (pc' := 381) (v := 1) kc_195_380 rfl rfl ?_
  obtain ⟨v1, ev1⟩ : ∃ q : Int32, x4 + 1 = q := ⟨_, rfl⟩
  have zv1 : v1.toInt = (x4.toInt + 1) := by rw [← ev1]; exact (xz_add (X := x4.toInt) (Y := 1) rfl (by decide) (by omega) (by omega)).trans (by omega)
  refine xi_iadd (pc' := 382) (v := v1) kc_195_381 rfl ev1 ?_
  obtain ⟨a2, ea2⟩ : ∃ q : Int32, xs.getD (Int32.toNatClampNeg v1) 0 = q := ⟨_, rfl⟩
  have ra2 := xc_rng a2
  refine xi_ialoadO (pc' := 383) (v := a2) kc_195_382 rfl (by decide) hov0 (xi_in (by omega) (by omega)) ea2 ?_
  obtain ⟨u3, u4, bu3, bu4, A5⟩ := xq_0 K.1
  refine xi_virtual (mj := 101) (as := [.int a2]) (st1 := []) (lv0 := [(0, .ref 0), (1, .int a2)]) kc_195_383 rfl rfl rfl rfl rfl A5 (Nat.le_of_ble_eq_true rfl) (hJ _ _ _ _ (by decide)) (xm_le ml_101 rfl) rfl ?_
  refine mt_101_0 hJ hov1 hov2 (d := 96) (x1 := a2) K.1 (fun r6 hh7 br6 K8 => ?_)
  have K9 := xk_tr K K8 rfl
  obtain ⟨u10, u11, bu10, bu11, A12⟩ := xq_0 K9.1
  have e13 : u4 = u11 := xk_eqi (q := 9) K8 rfl A5 A12 rfl rfl
  subst e13
  show xw J ov 100 195 (386, [(4, .int x4), (3, .ref 167), (2, .ref 115), (1, .ref 0), (0, .ref 1000000)], [.int r6], hh7) _
  refine xi_pop (pc' := 387) kc_195_386 rfl rfl ?_
  refine xi_aload_n (pc' := 388) (x := 115) kc_195_387 rfl rfl ?_
  refine xi_aload_n (pc' := 389) (x := 1000000) kc_195_388 rfl rfl ?_
  refine xi_iload (pc' := 391) (x := x4) kc_195_389 rfl rfl ?_
  refine xi_iconst (pc' := 392) (v := 1) kc_195_391 rfl rfl ?_
  refine xi_iadd (pc' := 393) (v := v1) kc_195_392 rfl ev1 ?_
  refine xi_ialoadO (pc' := 394) (v := a2) kc_195_393 rfl (by decide) hov0 (xi_in (by omega) (by omega)) ea2 ?_
  obtain ⟨u14, u15, u16, u17, u18, u19, u20, u21, u22, u23, u24, u25, u26, bu14, bu15, bu16, bu17, bu18, bu19, bu20, bu21, bu22, bu23, bu24, bu25, bu26, A27⟩ := xq_115 K9.1
  refine xi_virtual (mj := 21) (as := [.int a2]) (st1 := []) (lv0 := [(0, .ref 115), (1, .int a2)]) kc_195_394 rfl rfl rfl rfl rfl A27 (Nat.le_of_ble_eq_true rfl) (hJ _ _ _ _ (by decide)) (xm_le ml_21 rfl) rfl ?_
  refine mt_21_0 hJ hov1 hov2 (d := 97) (x1 := a2) K9.1 (fun r28 hh29 br28 K30 => ?_)
  have K31 := xk_tr K9 K30 rfl
  obtain ⟨u32, u33, bu32, bu33, A34⟩ := xq_0 K31.1
  have e35 : u4 = u33 := xk_eqi (q := 9) K30 rfl A12 A34 rfl rfl
  subst e35
  obtain ⟨u36, u37, u38, u39, u40, u41, u42, u43, u44, u45, u46, u47, u48, bu36, bu37, bu38, bu39, bu40, bu41, bu42, bu43, bu44, bu45, bu46, bu47, bu48, A49⟩ := xq_115 K31.1
  have e50 : u15 = u37 := xk_eqi (q := 1) K30 rfl A27 A49 rfl rfl
  subst e50
  show xw J ov 100 195 (397, [(4, .int x4), (3, .ref 167), (2, .ref 115), (1, .ref 0), (0, .ref 1000000)], [.int r28], hh29) _
  refine xi_pop (pc' := 398) kc_195_397 rfl rfl ?_
  refine xi_goto (pc' := 1501) kc_195_398 rfl ?_
  obtain ⟨v51, ev51⟩ : ∃ q : Int32, x4 + 6 = q := ⟨_, rfl⟩
  have zv51 : v51.toInt = (x4.toInt + 6) := by rw [← ev51]; exact (xz_add (X := x4.toInt) (Y := 6) rfl (by decide) (by omega) (by omega)).trans (by omega)
  refine xi_iinc (pc' := 1504) (x := x4) (v := v51) (lv' := [(4, .int v51), (3, .ref 167), (2, .ref 115), (1, .ref 0), (0, .ref 1000000)]) kc_195_1501 rfl rfl ev51 rfl (xm_lt ml_195 rfl) ?_
  refine xi_goto (pc' := 23) kc_195_1504 rfl ?_
  exact kk v51 hh29 (by omega) K31
set_option maxHeartbeats 8000000 in
theorem lc_5 {J : xe_J} {ov : List (List Int32)} (hJ : ∀ d mj as h, mj ≠ xe_loff → J d mj as h = none) (hov1 : ov[1]? = some [10, 0, 0, 0, 0, 0]) (hov2 : ov[2]? = some [99, 30, 50, 50, 1, 99999]) {xs : List Int32} (hov0 : ov[0]? = some xs) {Q : Option Value → xe_H → Prop} {h : xe_H} {x4 : Int32} (hi0 : 0 ≤ x4.toInt) (hi1 : x4.toInt + 6 ≤ xs.length) (hi2 : x4.toInt ≤ 3066) (T : xt h) (kk : ∀ (i : Int32) (h' : xe_H), i.toInt = x4.toInt + 6 → xk [(6, 0), (123, 0), (9, 0), (124, 0)] h h' → xw J ov 100 195 (23, [(4, .int i), (3, .ref 167), (2, .ref 115), (1, .ref 0), (0, .ref 1000000)], [], h') Q) : xw J ov 100 195 (401, [(4, .int x4), (3, .ref 167), (2, .ref 115), (1, .ref 0), (0, .ref 1000000)], [], h) Q := by
  have K : xk [(6, 0), (123, 0), (9, 0), (124, 0)] h h := xk_re T
  refine xi_aload_n (pc' := 402) (x := 0) kc_195_401 rfl rfl ?_
  refine xi_aload_n (pc' := 403) (x := 1000000) kc_195_402 rfl rfl ?_
  refine xi_iload (pc' := 405) (x := x4) kc_195_403 rfl rfl ?_
  refine xi_iconst (pc' := 406) (v := 1) kc_195_405 rfl rfl ?_
  obtain ⟨v1, ev1⟩ : ∃ q : Int32, x4 + 1 = q := ⟨_, rfl⟩
  have zv1 : v1.toInt = (x4.toInt + 1) := by rw [← ev1]; exact (xz_add (X := x4.toInt) (Y := 1) rfl (by decide) (by omega) (by omega)).trans (by omega)
  refine xi_iadd (pc' := 407) (v := v1) kc_195_406 rfl ev1 ?_
  obtain ⟨a2, ea2⟩ : ∃ q : Int32, xs.getD (Int32.toNatClampNeg v1) 0 = q := ⟨_, rfl⟩
  have ra2 := xc_rng a2
  refine xi_ialoadO (pc' := 408) (v := a2) kc_195_407 rfl (by decide) hov0 (xi_in (by omega) (by omega)) ea2 ?_
  refine xi_aload_n (pc' := 409) (x := 1000000) kc_195_408 rfl rfl ?_
  refine xi_iload (pc' := 411) (x := x4) kc_195_409 rfl rfl ?_
  refine xi_iconst (pc' := 412) (v := 2) kc_195_411 rfl rfl ?_
  obtain ⟨v3, ev3⟩ : ∃ q : Int32, x4 + 2 = q := ⟨_, rfl⟩
  have zv3 : v3.toInt = (x4.toInt + 2) := by rw [← ev3]; exact (xz_add (X := x4.toInt) (Y := 2) rfl (by decide) (by omega) (by omega)).trans (by omega)
  refine xi_iadd (pc' := 413) (v := v3) kc_195_412 rfl ev3 ?_
  obtain ⟨a4, ea4⟩ : ∃ q : Int32, xs.getD (Int32.toNatClampNeg v3) 0 = q := ⟨_, rfl⟩
  have ra4 := xc_rng a4
  refine xi_ialoadO (pc' := 414) (v := a4) kc_195_413 rfl (by decide) hov0 (xi_in (by omega) (by omega)) ea4 ?_
  refine xi_aload_n (pc' := 415) (x := 1000000) kc_195_414 rfl rfl ?_
  refine xi_iload (pc' := 417) (x := x4) kc_195_415 rfl rfl ?_
  refine xi_iconst (pc' := 418) (v := 3) kc_195_417 rfl rfl ?_
  obtain ⟨v5, ev5⟩ : ∃ q : Int32, x4 + 3 = q := ⟨_, rfl⟩
  have zv5 : v5.toInt = (x4.toInt + 3) := by rw [← ev5]; exact (xz_add (X := x4.toInt) (Y := 3) rfl (by decide) (by omega) (by omega)).trans (by omega)
  refine xi_iadd (pc' := 419) (v := v5) kc_195_418 rfl ev5 ?_
  obtain ⟨a6, ea6⟩ : ∃ q : Int32, xs.getD (Int32.toNatClampNeg v5) 0 = q := ⟨_, rfl⟩
  have ra6 := xc_rng a6
  refine xi_ialoadO (pc' := 420) (v := a6) kc_195_419 rfl (by decide) hov0 (xi_in (by omega) (by omega)) ea6 ?_
  refine xi_aload_n (pc' := 421) (x := 1000000) kc_195_420 rfl rfl ?_
  refine xi_iload (pc' := 423) (x := x4) kc_195_421 rfl rfl ?_
  refine xi_iconst (pc' := 424) (v := 4) kc_195_423 rfl rfl ?_
  obtain ⟨v7, ev7⟩ : ∃ q : Int32, x4 + 4 = q := ⟨_, rfl⟩
  have zv7 : v7.toInt = (x4.toInt + 4) := by rw [← ev7]; exact (xz_add (X := x4.toInt) (Y := 4) rfl (by decide) (by omega) (by omega)).trans (by omega)
  refine xi_iadd (pc' := 425) (v := v7) kc_195_424 rfl ev7 ?_
  obtain ⟨a8, ea8⟩ : ∃ q : Int32, xs.getD (Int32.toNatClampNeg v7) 0 = q := ⟨_, rfl⟩
  have ra8 := xc_rng a8
  refine xi_ialoadO (pc' := 426) (v := a8) kc_195_425 rfl (by decide) hov0 (xi_in (by omega) (by omega)) ea8 ?_
  by_cases c9 : a8.toInt = 0
  · refine xi_ift (pc' := 433) kc_195_426 rfl (xc_eq_t (X := a8.toInt) (Y := 0) rfl (by decide) (by omega)) ?_
    refine xi_iconst (pc' := 434) (v := 0) kc_195_433 rfl rfl ?_
    obtain ⟨u10, u11, bu10, bu11, A12⟩ := xq_0 K.1
    refine xi_virtual (mj := 103) (as := [.int a2, .int a4, .int a6, .int 0]) (st1 := []) (lv0 := [(0, .ref 0), (1, .int a2), (2, .int a4), (3, .int a6), (4, .int 0)]) kc_195_434 rfl rfl rfl rfl rfl A12 (Nat.le_of_ble_eq_true rfl) (hJ _ _ _ _ (by decide)) (xm_le ml_103 rfl) rfl ?_
    have zc0 : (0 : Int32).toInt = 0 := by decide
    refine mt_103_0 hJ hov1 hov2 (d := 97) (x1 := a2) (x2 := a4) (x3 := a6) (x4 := 0) K.1 (by first | omega | decide) (fun r13 hh14 br13 K15 => ?_)
    have K16 := xk_tr K K15 rfl
    obtain ⟨u17, u18, bu17, bu18, A19⟩ := xq_0 K16.1
    have e20 : u11 = u18 := xk_eqi (q := 9) K15 rfl A12 A19 rfl rfl
    subst e20
    show xw J ov 100 195 (437, [(4, .int x4), (3, .ref 167), (2, .ref 115), (1, .ref 0), (0, .ref 1000000)], [.int r13], hh14) _
    refine xi_pop (pc' := 438) kc_195_437 rfl rfl ?_
    refine xi_aload_n (pc' := 439) (x := 115) kc_195_438 rfl rfl ?_
    refine xi_aload_n (pc' := 440) (x := 1000000) kc_195_439 rfl rfl ?_
    refine xi_iload (pc' := 442) (x := x4) kc_195_440 rfl rfl ?_
    refine xi_iconst (pc' := 443) (v := 1) kc_195_442 rfl rfl ?_
    refine xi_iadd (pc' := 444) (v := v1) kc_195_443 rfl ev1 ?_
    refine xi_ialoadO (pc' := 445) (v := a2) kc_195_444 rfl (by decide) hov0 (xi_in (by omega) (by omega)) ea2 ?_
    refine xi_aload_n (pc' := 446) (x := 1000000) kc_195_445 rfl rfl ?_
    refine xi_iload (pc' := 448) (x := x4) kc_195_446 rfl rfl ?_
    refine xi_iconst (pc' := 449) (v := 2) kc_195_448 rfl rfl ?_
    refine xi_iadd (pc' := 450) (v := v3) kc_195_449 rfl ev3 ?_
    refine xi_ialoadO (pc' := 451) (v := a4) kc_195_450 rfl (by decide) hov0 (xi_in (by omega) (by omega)) ea4 ?_
    refine xi_aload_n (pc' := 452) (x := 1000000) kc_195_451 rfl rfl ?_
    refine xi_iload (pc' := 454) (x := x4) kc_195_452 rfl rfl ?_
    refine xi_iconst (pc' := 455) (v := 3) kc_195_454 rfl rfl ?_
    refine xi_iadd (pc' := 456) (v := v5) kc_195_455 rfl ev5 ?_
    refine xi_ialoadO (pc' := 457) (v := a6) kc_195_456 rfl (by decide) hov0 (xi_in (by omega) (by omega)) ea6 ?_
    refine xi_aload_n (pc' := 458) (x := 1000000) kc_195_457 rfl rfl ?_
    refine xi_iload (pc' := 460) (x := x4) kc_195_458 rfl rfl ?_
    refine xi_iconst (pc' := 461) (v := 4) kc_195_460 rfl rfl ?_
    refine xi_iadd (pc' := 462) (v := v7) kc_195_461 rfl ev7 ?_
    refine xi_ialoadO (pc' := 463) (v := a8) kc_195_462 rfl (by decide) hov0 (xi_in (by omega) (by omega)) ea8 ?_
    refine xi_ift (pc' := 470) kc_195_463 rfl (xc_eq_t (X := a8.toInt) (Y := 0) rfl (by decide) (by omega)) ?_
    refine xi_iconst (pc' := 471) (v := 0) kc_195_470 rfl rfl ?_
    obtain ⟨u21, u22, u23, u24, u25, u26, u27, u28, u29, u30, u31, u32, u33, bu21, bu22, bu23, bu24, bu25, bu26, bu27, bu28, bu29, bu30, bu31, bu32, bu33, A34⟩ := xq_115 K16.1
    refine xi_virtual (mj := 23) (as := [.int a2, .int a4, .int a6, .int 0]) (st1 := []) (lv0 := [(0, .ref 115), (1, .int a2), (2, .int a4), (3, .int a6), (4, .int 0)]) kc_195_471 rfl rfl rfl rfl rfl A34 (Nat.le_of_ble_eq_true rfl) (hJ _ _ _ _ (by decide)) (xm_le ml_23 rfl) rfl ?_
    have zc0 : (0 : Int32).toInt = 0 := by decide
    refine mt_23_0 hJ hov1 hov2 (d := 97) (x1 := a2) (x2 := a4) (x3 := a6) (x4 := 0) K16.1 (by first | omega | decide) (fun r35 hh36 br35 K37 => ?_)
    have K38 := xk_tr K16 K37 rfl
    obtain ⟨u39, u40, bu39, bu40, A41⟩ := xq_0 K38.1
    have e42 : u11 = u40 := xk_eqi (q := 9) K37 rfl A19 A41 rfl rfl
    subst e42
    obtain ⟨u43, u44, u45, u46, u47, u48, u49, u50, u51, u52, u53, u54, u55, bu43, bu44, bu45, bu46, bu47, bu48, bu49, bu50, bu51, bu52, bu53, bu54, bu55, A56⟩ := xq_115 K38.1
    have e57 : u22 = u44 := xk_eqi (q := 1) K37 rfl A34 A56 rfl rfl
    subst e57
    show xw J ov 100 195 (474, [(4, .int x4), (3, .ref 167), (2, .ref 115), (1, .ref 0), (0, .ref 1000000)], [.int r35], hh36) _
    refine xi_pop (pc' := 475) kc_195_474 rfl rfl ?_
    refine xi_goto (pc' := 1501) kc_195_475 rfl ?_
    obtain ⟨v58, ev58⟩ : ∃ q : Int32, x4 + 6 = q := ⟨_, rfl⟩
    have zv58 : v58.toInt = (x4.toInt + 6) := by rw [← ev58]; exact (xz_add (X := x4.toInt) (Y := 6) rfl (by decide) (by omega) (by omega)).trans (by omega)
    refine xi_iinc (pc' := 1504) (x := x4) (v := v58) (lv' := [(4, .int v58), (3, .ref 167), (2, .ref 115), (1, .ref 0), (0, .ref 1000000)]) kc_195_1501 rfl rfl ev58 rfl (xm_lt ml_195 rfl) ?_
    refine xi_goto (pc' := 23) kc_195_1504 rfl ?_
    exact kk v58 hh36 (by omega) K38
  · refine xi_iff (pc' := 429) kc_195_426 rfl (xc_eq_f (X := a8.toInt) (Y := 0) rfl (by decide) (by omega)) ?_
    refine xi_iconst (pc' := 430) (v := 1) kc_195_429 rfl rfl ?_
    refine xi_goto (pc' := 434) kc_195_430 rfl ?_
    obtain ⟨u59, u60, bu59, bu60, A61⟩ := xq_0 K.1
    refine xi_virtual (mj := 103) (as := [.int a2, .int a4, .int a6, .int 1]) (st1 := []) (lv0 := [(0, .ref 0), (1, .int a2), (2, .int a4), (3, .int a6), (4, .int 1)]) kc_195_434 rfl rfl rfl rfl rfl A61 (Nat.le_of_ble_eq_true rfl) (hJ _ _ _ _ (by decide)) (xm_le ml_103 rfl) rfl ?_
    have zc1 : (1 : Int32).toInt = 1 := by decide
    refine mt_103_0 hJ hov1 hov2 (d := 97) (x1 := a2) (x2 := a4) (x3 := a6) (x4 := 1) K.1 (by first | omega | decide) (fun r62 hh63 br62 K64 => ?_)
    have K65 := xk_tr K K64 rfl
    obtain ⟨u66, u67, bu66, bu67, A68⟩ := xq_0 K65.1
    have e69 : u60 = u67 := xk_eqi (q := 9) K64 rfl A61 A68 rfl rfl
    subst e69
    show xw J ov 100 195 (437, [(4, .int x4), (3, .ref 167), (2, .ref 115), (1, .ref 0), (0, .ref 1000000)], [.int r62], hh63) _
    refine xi_pop (pc' := 438) kc_195_437 rfl rfl ?_
    refine xi_aload_n (pc' := 439) (x := 115) kc_195_438 rfl rfl ?_
    refine xi_aload_n (pc' := 440) (x := 1000000) kc_195_439 rfl rfl ?_
    refine xi_iload (pc' := 442) (x := x4) kc_195_440 rfl rfl ?_
    refine xi_iconst (pc' := 443) (v := 1) kc_195_442 rfl rfl ?_
    refine xi_iadd (pc' := 444) (v := v1) kc_195_443 rfl ev1 ?_
    refine xi_ialoadO (pc' := 445) (v := a2) kc_195_444 rfl (by decide) hov0 (xi_in (by omega) (by omega)) ea2 ?_
    refine xi_aload_n (pc' := 446) (x := 1000000) kc_195_445 rfl rfl ?_
    refine xi_iload (pc' := 448) (x := x4) kc_195_446 rfl rfl ?_
    refine xi_iconst (pc' := 449) (v := 2) kc_195_448 rfl rfl ?_
    refine xi_iadd (pc' := 450) (v := v3) kc_195_449 rfl ev3 ?_
    refine xi_ialoadO (pc' := 451) (v := a4) kc_195_450 rfl (by decide) hov0 (xi_in (by omega) (by omega)) ea4 ?_
    refine xi_aload_n (pc' := 452) (x := 1000000) kc_195_451 rfl rfl ?_
    refine xi_iload (pc' := 454) (x := x4) kc_195_452 rfl rfl ?_
    refine xi_iconst (pc' := 455) (v := 3) kc_195_454 rfl rfl ?_
    refine xi_iadd (pc' := 456) (v := v5) kc_195_455 rfl ev5 ?_
    refine xi_ialoadO (pc' := 457) (v := a6) kc_195_456 rfl (by decide) hov0 (xi_in (by omega) (by omega)) ea6 ?_
    refine xi_aload_n (pc' := 458) (x := 1000000) kc_195_457 rfl rfl ?_
    refine xi_iload (pc' := 460) (x := x4) kc_195_458 rfl rfl ?_
    refine xi_iconst (pc' := 461) (v := 4) kc_195_460 rfl rfl ?_
    refine xi_iadd (pc' := 462) (v := v7) kc_195_461 rfl ev7 ?_
    refine xi_ialoadO (pc' := 463) (v := a8) kc_195_462 rfl (by decide) hov0 (xi_in (by omega) (by omega)) ea8 ?_
    refine xi_iff (pc' := 466) kc_195_463 rfl (xc_eq_f (X := a8.toInt) (Y := 0) rfl (by decide) (by omega)) ?_
    refine xi_iconst (pc' := 467) (v := 1) kc_195_466 rfl rfl ?_
    refine xi_goto (pc' := 471) kc_195_467 rfl ?_
    obtain ⟨u70, u71, u72, u73, u74, u75, u76, u77, u78, u79, u80, u81, u82, bu70, bu71, bu72, bu73, bu74, bu75, bu76, bu77, bu78, bu79, bu80, bu81, bu82, A83⟩ := xq_115 K65.1
    refine xi_virtual (mj := 23) (as := [.int a2, .int a4, .int a6, .int 1]) (st1 := []) (lv0 := [(0, .ref 115), (1, .int a2), (2, .int a4), (3, .int a6), (4, .int 1)]) kc_195_471 rfl rfl rfl rfl rfl A83 (Nat.le_of_ble_eq_true rfl) (hJ _ _ _ _ (by decide)) (xm_le ml_23 rfl) rfl ?_
    have zc1 : (1 : Int32).toInt = 1 := by decide
    refine mt_23_0 hJ hov1 hov2 (d := 97) (x1 := a2) (x2 := a4) (x3 := a6) (x4 := 1) K65.1 (by first | omega | decide) (fun r84 hh85 br84 K86 => ?_)
    have K87 := xk_tr K65 K86 rfl
    obtain ⟨u88, u89, bu88, bu89, A90⟩ := xq_0 K87.1
    have e91 : u60 = u89 := xk_eqi (q := 9) K86 rfl A68 A90 rfl rfl
    subst e91
    obtain ⟨u92, u93, u94, u95, u96, u97, u98, u99, u100, u101, u102, u103, u104, bu92, bu93, bu94, bu95, bu96, bu97, bu98, bu99, bu100, bu101, bu102, bu103, bu104, A105⟩ := xq_115 K87.1
    have e106 : u71 = u93 := xk_eqi (q := 1) K86 rfl A83 A105 rfl rfl
    subst e106
    show xw J ov 100 195 (474, [(4, .int x4), (3, .ref 167), (2, .ref 115), (1, .ref 0), (0, .ref 1000000)], [.int r84], hh85) _
    refine xi_pop (pc' := 475) kc_195_474 rfl rfl ?_
    refine xi_goto (pc' := 1501) kc_195_475 rfl ?_
    obtain ⟨v107, ev107⟩ : ∃ q : Int32, x4 + 6 = q := ⟨_, rfl⟩
    have zv107 : v107.toInt = (x4.toInt + 6) := by rw [← ev107]; exact (xz_add (X := x4.toInt) (Y := 6) rfl (by decide) (by omega) (by omega)).trans (by omega)
    refine xi_iinc (pc' := 1504) (x := x4) (v := v107) (lv' := [(4, .int v107), (3, .ref 167), (2, .ref 115), (1, .ref 0), (0, .ref 1000000)]) kc_195_1501 rfl rfl ev107 rfl (xm_lt ml_195 rfl) ?_
    refine xi_goto (pc' := 23) kc_195_1504 rfl ?_
    exact kk v107 hh85 (by omega) K87
set_option maxHeartbeats 8000000 in
theorem lc_6 {J : xe_J} {ov : List (List Int32)} (hJ : ∀ d mj as h, mj ≠ xe_loff → J d mj as h = none) (hov1 : ov[1]? = some [10, 0, 0, 0, 0, 0]) (hov2 : ov[2]? = some [99, 30, 50, 50, 1, 99999]) {xs : List Int32} (hov0 : ov[0]? = some xs) {Q : Option Value → xe_H → Prop} {h : xe_H} {x4 : Int32} (hi0 : 0 ≤ x4.toInt) (hi1 : x4.toInt + 6 ≤ xs.length) (hi2 : x4.toInt ≤ 3066) (T : xt h) (kk : ∀ (i : Int32) (h' : xe_H), i.toInt = x4.toInt + 6 → xk [(6, 0), (123, 0), (9, 0), (124, 0)] h h' → xw J ov 100 195 (23, [(4, .int i), (3, .ref 167), (2, .ref 115), (1, .ref 0), (0, .ref 1000000)], [], h') Q) : xw J ov 100 195 (478, [(4, .int x4), (3, .ref 167), (2, .ref 115), (1, .ref 0), (0, .ref 1000000)], [], h) Q := by
  have K : xk [(6, 0), (123, 0), (9, 0), (124, 0)] h h := xk_re T
  refine xi_aload_n (pc' := 479) (x := 0) kc_195_478 rfl rfl ?_
  refine xi_aload_n (pc' := 480) (x := 1000000) kc_195_479 rfl rfl ?_
  refine xi_iload (pc' := 482) (x := x4) kc_195_480 rfl rfl ?_
  refine xi_iconst (pc' := 483) (v := 1) kc_195_482 rfl rfl ?_
  obtain ⟨v1, ev1⟩ : ∃ q : Int32, x4 + 1 = q := ⟨_, rfl⟩
  have zv1 : v1.toInt = (x4.toInt + 1) := by rw [← ev1]; exact (xz_add (X := x4.toInt) (Y := 1) rfl (by decide) (by omega) (by omega)).trans (by omega)
  refine xi_iadd (pc' := 484) (v := v1) kc_195_483 rfl ev1 ?_
  obtain ⟨a2, ea2⟩ : ∃ q : Int32, xs.getD (Int32.toNatClampNeg v1) 0 = q := ⟨_, rfl⟩
  have ra2 := xc_rng a2
  refine xi_ialoadO (pc' := 485) (v := a2) kc_195_484 rfl (by decide) hov0 (xi_in (by omega) (by omega)) ea2 ?_
  refine xi_aload_n (pc' := 486) (x := 1000000) kc_195_485 rfl rfl ?_
  refine xi_iload (pc' := 488) (x := x4) kc_195_486 rfl rfl ?_
  refine xi_iconst (pc' := 489) (v := 2) kc_195_488 rfl rfl ?_
  obtain ⟨v3, ev3⟩ : ∃ q : Int32, x4 + 2 = q := ⟨_, rfl⟩
  have zv3 : v3.toInt = (x4.toInt + 2) := by rw [← ev3]; exact (xz_add (X := x4.toInt) (Y := 2) rfl (by decide) (by omega) (by omega)).trans (by omega)
  refine xi_iadd (pc' := 490) (v := v3) kc_195_489 rfl ev3 ?_
  obtain ⟨a4, ea4⟩ : ∃ q : Int32, xs.getD (Int32.toNatClampNeg v3) 0 = q := ⟨_, rfl⟩
  have ra4 := xc_rng a4
  refine xi_ialoadO (pc' := 491) (v := a4) kc_195_490 rfl (by decide) hov0 (xi_in (by omega) (by omega)) ea4 ?_
  obtain ⟨u5, u6, bu5, bu6, A7⟩ := xq_0 K.1
  refine xi_virtual (mj := 106) (as := [.int a2, .int a4]) (st1 := []) (lv0 := [(0, .ref 0), (1, .int a2), (2, .int a4)]) kc_195_491 rfl rfl rfl rfl rfl A7 (Nat.le_of_ble_eq_true rfl) (hJ _ _ _ _ (by decide)) (xm_le ml_106 rfl) rfl ?_
  refine mt_106_0 hJ hov1 hov2 (d := 95) (x1 := a2) (x2 := a4) K.1 (fun r8 hh9 K10 => ?_)
  have br8 := xc_rng r8
  have K11 := xk_tr K K10 rfl
  obtain ⟨u12, u13, bu12, bu13, A14⟩ := xq_0 K11.1
  have e15 : u6 = u13 := xk_eqi (q := 9) K10 rfl A7 A14 rfl rfl
  subst e15
  show xw J ov 100 195 (494, [(4, .int x4), (3, .ref 167), (2, .ref 115), (1, .ref 0), (0, .ref 1000000)], [.int r8], hh9) _
  refine xi_pop (pc' := 495) kc_195_494 rfl rfl ?_
  refine xi_aload_n (pc' := 496) (x := 115) kc_195_495 rfl rfl ?_
  refine xi_aload_n (pc' := 497) (x := 1000000) kc_195_496 rfl rfl ?_
  refine xi_iload (pc' := 499) (x := x4) kc_195_497 rfl rfl ?_
  refine xi_iconst (pc' := 500) (v := 1) kc_195_499 rfl rfl ?_
  refine xi_iadd (pc' := 501) (v := v1) kc_195_500 rfl ev1 ?_
  refine xi_ialoadO (pc' := 502) (v := a2) kc_195_501 rfl (by decide) hov0 (xi_in (by omega) (by omega)) ea2 ?_
  refine xi_aload_n (pc' := 503) (x := 1000000) kc_195_502 rfl rfl ?_
  refine xi_iload (pc' := 505) (x := x4) kc_195_503 rfl rfl ?_
  refine xi_iconst (pc' := 506) (v := 2) kc_195_505 rfl rfl ?_
  refine xi_iadd (pc' := 507) (v := v3) kc_195_506 rfl ev3 ?_
  refine xi_ialoadO (pc' := 508) (v := a4) kc_195_507 rfl (by decide) hov0 (xi_in (by omega) (by omega)) ea4 ?_
  obtain ⟨u16, u17, u18, u19, u20, u21, u22, u23, u24, u25, u26, u27, u28, bu16, bu17, bu18, bu19, bu20, bu21, bu22, bu23, bu24, bu25, bu26, bu27, bu28, A29⟩ := xq_115 K11.1
  refine xi_virtual (mj := 25) (as := [.int a2, .int a4]) (st1 := []) (lv0 := [(0, .ref 115), (1, .int a2), (2, .int a4)]) kc_195_508 rfl rfl rfl rfl rfl A29 (Nat.le_of_ble_eq_true rfl) (hJ _ _ _ _ (by decide)) (xm_le ml_25 rfl) rfl ?_
  refine mt_25_0 hJ hov1 hov2 (d := 96) (x1 := a2) (x2 := a4) K11.1 (fun r30 hh31 K32 => ?_)
  have br30 := xc_rng r30
  have K33 := xk_tr K11 K32 rfl
  obtain ⟨u34, u35, bu34, bu35, A36⟩ := xq_0 K33.1
  have e37 : u6 = u35 := xk_eqi (q := 9) K32 rfl A14 A36 rfl rfl
  subst e37
  obtain ⟨u38, u39, u40, u41, u42, u43, u44, u45, u46, u47, u48, u49, u50, bu38, bu39, bu40, bu41, bu42, bu43, bu44, bu45, bu46, bu47, bu48, bu49, bu50, A51⟩ := xq_115 K33.1
  have e52 : u17 = u39 := xk_eqi (q := 1) K32 rfl A29 A51 rfl rfl
  subst e52
  show xw J ov 100 195 (511, [(4, .int x4), (3, .ref 167), (2, .ref 115), (1, .ref 0), (0, .ref 1000000)], [.int r30], hh31) _
  refine xi_pop (pc' := 512) kc_195_511 rfl rfl ?_
  refine xi_goto (pc' := 1501) kc_195_512 rfl ?_
  obtain ⟨v53, ev53⟩ : ∃ q : Int32, x4 + 6 = q := ⟨_, rfl⟩
  have zv53 : v53.toInt = (x4.toInt + 6) := by rw [← ev53]; exact (xz_add (X := x4.toInt) (Y := 6) rfl (by decide) (by omega) (by omega)).trans (by omega)
  refine xi_iinc (pc' := 1504) (x := x4) (v := v53) (lv' := [(4, .int v53), (3, .ref 167), (2, .ref 115), (1, .ref 0), (0, .ref 1000000)]) kc_195_1501 rfl rfl ev53 rfl (xm_lt ml_195 rfl) ?_
  refine xi_goto (pc' := 23) kc_195_1504 rfl ?_
  exact kk v53 hh31 (by omega) K33
set_option maxHeartbeats 8000000 in
theorem lc_7 {J : xe_J} {ov : List (List Int32)} (hJ : ∀ d mj as h, mj ≠ xe_loff → J d mj as h = none) (hov1 : ov[1]? = some [10, 0, 0, 0, 0, 0]) (hov2 : ov[2]? = some [99, 30, 50, 50, 1, 99999]) {xs : List Int32} (hov0 : ov[0]? = some xs) {Q : Option Value → xe_H → Prop} {h : xe_H} {x4 : Int32} (hi0 : 0 ≤ x4.toInt) (hi1 : x4.toInt + 6 ≤ xs.length) (hi2 : x4.toInt ≤ 3066) (T : xt h) (kk : ∀ (i : Int32) (h' : xe_H), i.toInt = x4.toInt + 6 → xk [(6, 0), (123, 0), (9, 0), (124, 0)] h h' → xw J ov 100 195 (23, [(4, .int i), (3, .ref 167), (2, .ref 115), (1, .ref 0), (0, .ref 1000000)], [], h') Q) : xw J ov 100 195 (515, [(4, .int x4), (3, .ref 167), (2, .ref 115), (1, .ref 0), (0, .ref 1000000)], [], h) Q := by
  have K : xk [(6, 0), (123, 0), (9, 0), (124, 0)] h h := xk_re T
  refine xi_aload_n (pc' := 516) (x := 0) kc_195_515 rfl rfl ?_
  refine xi_aload_n (pc' := 517) (x := 1000000) kc_195_516 rfl rfl ?_
  refine xi_iload (pc' := 519) (x := x4) kc_195_517 rfl rfl ?_
  refine xi_iconst (pc' := 520) (v := 1) kc_195_519 rfl rfl ?_
  obtain ⟨v1, ev1⟩ : ∃ q : Int32, x4 + 1 = q := ⟨_, rfl⟩
  have zv1 : v1.toInt = (x4.toInt + 1) := by rw [← ev1]; exact (xz_add (X := x4.toInt) (Y := 1) rfl (by decide) (by omega) (by omega)).trans (by omega)
  refine xi_iadd (pc' := 521) (v := v1) kc_195_520 rfl ev1 ?_
  obtain ⟨a2, ea2⟩ : ∃ q : Int32, xs.getD (Int32.toNatClampNeg v1) 0 = q := ⟨_, rfl⟩
  have ra2 := xc_rng a2
  refine xi_ialoadO (pc' := 522) (v := a2) kc_195_521 rfl (by decide) hov0 (xi_in (by omega) (by omega)) ea2 ?_
  obtain ⟨u3, u4, bu3, bu4, A5⟩ := xq_0 K.1
  refine xi_virtual (mj := 110) (as := [.int a2]) (st1 := []) (lv0 := [(0, .ref 0), (1, .int a2)]) kc_195_522 rfl rfl rfl rfl rfl A5 (Nat.le_of_ble_eq_true rfl) (hJ _ _ _ _ (by decide)) (xm_le ml_110 rfl) rfl ?_
  refine mt_110_0 hJ hov1 hov2 (d := 98) (x1 := a2) K.1 (fun r6 hh7 K8 => ?_)
  have br6 := xc_rng r6
  have K9 := xk_tr K K8 rfl
  obtain ⟨u10, u11, bu10, bu11, A12⟩ := xq_0 K9.1
  have e13 : u4 = u11 := xk_eqi (q := 9) K8 rfl A5 A12 rfl rfl
  subst e13
  show xw J ov 100 195 (525, [(4, .int x4), (3, .ref 167), (2, .ref 115), (1, .ref 0), (0, .ref 1000000)], [.int r6], hh7) _
  refine xi_pop (pc' := 526) kc_195_525 rfl rfl ?_
  refine xi_aload_n (pc' := 527) (x := 115) kc_195_526 rfl rfl ?_
  refine xi_aload_n (pc' := 528) (x := 1000000) kc_195_527 rfl rfl ?_
  refine xi_iload (pc' := 530) (x := x4) kc_195_528 rfl rfl ?_
  refine xi_iconst (pc' := 531) (v := 1) kc_195_530 rfl rfl ?_
  refine xi_iadd (pc' := 532) (v := v1) kc_195_531 rfl ev1 ?_
  refine xi_ialoadO (pc' := 533) (v := a2) kc_195_532 rfl (by decide) hov0 (xi_in (by omega) (by omega)) ea2 ?_
  obtain ⟨u14, u15, u16, u17, u18, u19, u20, u21, u22, u23, u24, u25, u26, bu14, bu15, bu16, bu17, bu18, bu19, bu20, bu21, bu22, bu23, bu24, bu25, bu26, A27⟩ := xq_115 K9.1
  refine xi_virtual (mj := 27) (as := [.int a2]) (st1 := []) (lv0 := [(0, .ref 115), (1, .int a2)]) kc_195_533 rfl rfl rfl rfl rfl A27 (Nat.le_of_ble_eq_true rfl) (hJ _ _ _ _ (by decide)) (xm_le ml_27 rfl) rfl ?_
  refine mt_27_0 hJ hov1 hov2 (d := 98) (x1 := a2) K9.1 (fun r28 hh29 K30 => ?_)
  have br28 := xc_rng r28
  have K31 := xk_tr K9 K30 rfl
  obtain ⟨u32, u33, bu32, bu33, A34⟩ := xq_0 K31.1
  have e35 : u4 = u33 := xk_eqi (q := 9) K30 rfl A12 A34 rfl rfl
  subst e35
  obtain ⟨u36, u37, u38, u39, u40, u41, u42, u43, u44, u45, u46, u47, u48, bu36, bu37, bu38, bu39, bu40, bu41, bu42, bu43, bu44, bu45, bu46, bu47, bu48, A49⟩ := xq_115 K31.1
  have e50 : u15 = u37 := xk_eqi (q := 1) K30 rfl A27 A49 rfl rfl
  subst e50
  show xw J ov 100 195 (536, [(4, .int x4), (3, .ref 167), (2, .ref 115), (1, .ref 0), (0, .ref 1000000)], [.int r28], hh29) _
  refine xi_pop (pc' := 537) kc_195_536 rfl rfl ?_
  refine xi_goto (pc' := 1501) kc_195_537 rfl ?_
  obtain ⟨v51, ev51⟩ : ∃ q : Int32, x4 + 6 = q := ⟨_, rfl⟩
  have zv51 : v51.toInt = (x4.toInt + 6) := by rw [← ev51]; exact (xz_add (X := x4.toInt) (Y := 6) rfl (by decide) (by omega) (by omega)).trans (by omega)
  refine xi_iinc (pc' := 1504) (x := x4) (v := v51) (lv' := [(4, .int v51), (3, .ref 167), (2, .ref 115), (1, .ref 0), (0, .ref 1000000)]) kc_195_1501 rfl rfl ev51 rfl (xm_lt ml_195 rfl) ?_
  refine xi_goto (pc' := 23) kc_195_1504 rfl ?_
  exact kk v51 hh29 (by omega) K31
set_option maxHeartbeats 8000000 in
theorem lc_8 {J : xe_J} {ov : List (List Int32)} (hJ : ∀ d mj as h, mj ≠ xe_loff → J d mj as h = none) (hov1 : ov[1]? = some [10, 0, 0, 0, 0, 0]) (hov2 : ov[2]? = some [99, 30, 50, 50, 1, 99999]) {xs : List Int32} (hov0 : ov[0]? = some xs) {Q : Option Value → xe_H → Prop} {h : xe_H} {x4 : Int32} (hi0 : 0 ≤ x4.toInt) (hi1 : x4.toInt + 6 ≤ xs.length) (hi2 : x4.toInt ≤ 3066) (T : xt h) (kk : ∀ (i : Int32) (h' : xe_H), i.toInt = x4.toInt + 6 → xk [(6, 0), (123, 0), (9, 0), (124, 0)] h h' → xw J ov 100 195 (23, [(4, .int i), (3, .ref 167), (2, .ref 115), (1, .ref 0), (0, .ref 1000000)], [], h') Q) : xw J ov 100 195 (540, [(4, .int x4), (3, .ref 167), (2, .ref 115), (1, .ref 0), (0, .ref 1000000)], [], h) Q := by
  have K : xk [(6, 0), (123, 0), (9, 0), (124, 0)] h h := xk_re T
  refine xi_aload_n (pc' := 541) (x := 0) kc_195_540 rfl rfl ?_
  refine xi_aload_n (pc' := 542) (x := 1000000) kc_195_541 rfl rfl ?_
  refine xi_iload (pc' := 544) (x := x4) kc_195_542 rfl rfl ?_
  refine xi_iconst (pc' := 545) (v := 1) kc_195_544 rfl rfl ?_
  obtain ⟨v1, ev1⟩ : ∃ q : Int32, x4 + 1 = q := ⟨_, rfl⟩
  have zv1 : v1.toInt = (x4.toInt + 1) := by rw [← ev1]; exact (xz_add (X := x4.toInt) (Y := 1) rfl (by decide) (by omega) (by omega)).trans (by omega)
  refine xi_iadd (pc' := 546) (v := v1) kc_195_545 rfl ev1 ?_
  obtain ⟨a2, ea2⟩ : ∃ q : Int32, xs.getD (Int32.toNatClampNeg v1) 0 = q := ⟨_, rfl⟩
  have ra2 := xc_rng a2
  refine xi_ialoadO (pc' := 547) (v := a2) kc_195_546 rfl (by decide) hov0 (xi_in (by omega) (by omega)) ea2 ?_
  obtain ⟨u3, u4, bu3, bu4, A5⟩ := xq_0 K.1
  refine xi_virtual (mj := 111) (as := [.int a2]) (st1 := []) (lv0 := [(0, .ref 0), (1, .int a2)]) kc_195_547 rfl rfl rfl rfl rfl A5 (Nat.le_of_ble_eq_true rfl) (hJ _ _ _ _ (by decide)) (xm_le ml_111 rfl) rfl ?_
  refine mt_111_0 hJ hov1 hov2 (d := 98) (x1 := a2) K.1 (fun r6 hh7 K8 => ?_)
  have br6 := xc_rng r6
  have K9 := xk_tr K K8 rfl
  obtain ⟨u10, u11, bu10, bu11, A12⟩ := xq_0 K9.1
  have e13 : u4 = u11 := xk_eqi (q := 9) K8 rfl A5 A12 rfl rfl
  subst e13
  show xw J ov 100 195 (550, [(4, .int x4), (3, .ref 167), (2, .ref 115), (1, .ref 0), (0, .ref 1000000)], [.int r6], hh7) _
  refine xi_pop (pc' := 551) kc_195_550 rfl rfl ?_
  refine xi_aload_n (pc' := 552) (x := 115) kc_195_551 rfl rfl ?_
  refine xi_aload_n (pc' := 553) (x := 1000000) kc_195_552 rfl rfl ?_
  refine xi_iload (pc' := 555) (x := x4) kc_195_553 rfl rfl ?_
  refine xi_iconst (pc' := 556) (v := 1) kc_195_555 rfl rfl ?_
  refine xi_iadd (pc' := 557) (v := v1) kc_195_556 rfl ev1 ?_
  refine xi_ialoadO (pc' := 558) (v := a2) kc_195_557 rfl (by decide) hov0 (xi_in (by omega) (by omega)) ea2 ?_
  obtain ⟨u14, u15, u16, u17, u18, u19, u20, u21, u22, u23, u24, u25, u26, bu14, bu15, bu16, bu17, bu18, bu19, bu20, bu21, bu22, bu23, bu24, bu25, bu26, A27⟩ := xq_115 K9.1
  refine xi_virtual (mj := 28) (as := [.int a2]) (st1 := []) (lv0 := [(0, .ref 115), (1, .int a2)]) kc_195_558 rfl rfl rfl rfl rfl A27 (Nat.le_of_ble_eq_true rfl) (hJ _ _ _ _ (by decide)) (xm_le ml_28 rfl) rfl ?_
  refine mt_28_0 hJ hov1 hov2 (d := 97) (x1 := a2) K9.1 (fun r28 hh29 K30 => ?_)
  have br28 := xc_rng r28
  have K31 := xk_tr K9 K30 rfl
  obtain ⟨u32, u33, bu32, bu33, A34⟩ := xq_0 K31.1
  have e35 : u4 = u33 := xk_eqi (q := 9) K30 rfl A12 A34 rfl rfl
  subst e35
  obtain ⟨u36, u37, u38, u39, u40, u41, u42, u43, u44, u45, u46, u47, u48, bu36, bu37, bu38, bu39, bu40, bu41, bu42, bu43, bu44, bu45, bu46, bu47, bu48, A49⟩ := xq_115 K31.1
  have e50 : u15 = u37 := xk_eqi (q := 1) K30 rfl A27 A49 rfl rfl
  subst e50
  show xw J ov 100 195 (561, [(4, .int x4), (3, .ref 167), (2, .ref 115), (1, .ref 0), (0, .ref 1000000)], [.int r28], hh29) _
  refine xi_pop (pc' := 562) kc_195_561 rfl rfl ?_
  refine xi_goto (pc' := 1501) kc_195_562 rfl ?_
  obtain ⟨v51, ev51⟩ : ∃ q : Int32, x4 + 6 = q := ⟨_, rfl⟩
  have zv51 : v51.toInt = (x4.toInt + 6) := by rw [← ev51]; exact (xz_add (X := x4.toInt) (Y := 6) rfl (by decide) (by omega) (by omega)).trans (by omega)
  refine xi_iinc (pc' := 1504) (x := x4) (v := v51) (lv' := [(4, .int v51), (3, .ref 167), (2, .ref 115), (1, .ref 0), (0, .ref 1000000)]) kc_195_1501 rfl rfl ev51 rfl (xm_lt ml_195 rfl) ?_
  refine xi_goto (pc' := 23) kc_195_1504 rfl ?_
  exact kk v51 hh29 (by omega) K31
set_option maxHeartbeats 8000000 in
theorem lc_9 {J : xe_J} {ov : List (List Int32)} (hJ : ∀ d mj as h, mj ≠ xe_loff → J d mj as h = none) (hov1 : ov[1]? = some [10, 0, 0, 0, 0, 0]) (hov2 : ov[2]? = some [99, 30, 50, 50, 1, 99999]) {xs : List Int32} (hov0 : ov[0]? = some xs) {Q : Option Value → xe_H → Prop} {h : xe_H} {x4 : Int32} (hi0 : 0 ≤ x4.toInt) (hi1 : x4.toInt + 6 ≤ xs.length) (hi2 : x4.toInt ≤ 3066) (T : xt h) (kk : ∀ (i : Int32) (h' : xe_H), i.toInt = x4.toInt + 6 → xk [(6, 0), (123, 0), (9, 0), (124, 0)] h h' → xw J ov 100 195 (23, [(4, .int i), (3, .ref 167), (2, .ref 115), (1, .ref 0), (0, .ref 1000000)], [], h') Q) : xw J ov 100 195 (565, [(4, .int x4), (3, .ref 167), (2, .ref 115), (1, .ref 0), (0, .ref 1000000)], [], h) Q := by
  have K : xk [(6, 0), (123, 0), (9, 0), (124, 0)] h h := xk_re T
  refine xi_aload_n (pc' := 566) (x := 0) kc_195_565 rfl rfl ?_
  refine xi_aload_n (pc' := 567) (x := 1000000) kc_195_566 rfl rfl ?_
  refine xi_iload (pc' := 569) (x := x4) kc_195_567 rfl rfl ?_
  refine xi_iconst (pc' := 570) (v := 1) kc_195_569 rfl rfl ?_
  obtain ⟨v1, ev1⟩ : ∃ q : Int32, x4 + 1 = q := ⟨_, rfl⟩
  have zv1 : v1.toInt = (x4.toInt + 1) := by rw [← ev1]; exact (xz_add (X := x4.toInt) (Y := 1) rfl (by decide) (by omega) (by omega)).trans (by omega)
  refine xi_iadd (pc' := 571) (v := v1) kc_195_570 rfl ev1 ?_
  obtain ⟨a2, ea2⟩ : ∃ q : Int32, xs.getD (Int32.toNatClampNeg v1) 0 = q := ⟨_, rfl⟩
  have ra2 := xc_rng a2
  refine xi_ialoadO (pc' := 572) (v := a2) kc_195_571 rfl (by decide) hov0 (xi_in (by omega) (by omega)) ea2 ?_
  obtain ⟨u3, u4, bu3, bu4, A5⟩ := xq_0 K.1
  refine xi_virtual (mj := 112) (as := [.int a2]) (st1 := []) (lv0 := [(0, .ref 0), (1, .int a2)]) kc_195_572 rfl rfl rfl rfl rfl A5 (Nat.le_of_ble_eq_true rfl) (hJ _ _ _ _ (by decide)) (xm_le ml_112 rfl) rfl ?_
  refine mt_112_0 hJ hov1 hov2 (d := 98) (x1 := a2) K.1 (fun r6 hh7 K8 => ?_)
  have br6 := xc_rng r6
  have K9 := xk_tr K K8 rfl
  obtain ⟨u10, u11, bu10, bu11, A12⟩ := xq_0 K9.1
  have e13 : u4 = u11 := xk_eqi (q := 9) K8 rfl A5 A12 rfl rfl
  subst e13
  show xw J ov 100 195 (575, [(4, .int x4), (3, .ref 167), (2, .ref 115), (1, .ref 0), (0, .ref 1000000)], [.int r6], hh7) _
  refine xi_pop (pc' := 576) kc_195_575 rfl rfl ?_
  refine xi_aload_n (pc' := 577) (x := 115) kc_195_576 rfl rfl ?_
  refine xi_aload_n (pc' := 578) (x := 1000000) kc_195_577 rfl rfl ?_
  refine xi_iload (pc' := 580) (x := x4) kc_195_578 rfl rfl ?_
  refine xi_iconst (pc' := 581) (v := 1) kc_195_580 rfl rfl ?_
  refine xi_iadd (pc' := 582) (v := v1) kc_195_581 rfl ev1 ?_
  refine xi_ialoadO (pc' := 583) (v := a2) kc_195_582 rfl (by decide) hov0 (xi_in (by omega) (by omega)) ea2 ?_
  obtain ⟨u14, u15, u16, u17, u18, u19, u20, u21, u22, u23, u24, u25, u26, bu14, bu15, bu16, bu17, bu18, bu19, bu20, bu21, bu22, bu23, bu24, bu25, bu26, A27⟩ := xq_115 K9.1
  refine xi_virtual (mj := 29) (as := [.int a2]) (st1 := []) (lv0 := [(0, .ref 115), (1, .int a2)]) kc_195_583 rfl rfl rfl rfl rfl A27 (Nat.le_of_ble_eq_true rfl) (hJ _ _ _ _ (by decide)) (xm_le ml_29 rfl) rfl ?_
  refine mt_29_0 hJ hov1 hov2 (d := 97) (x1 := a2) K9.1 (fun r28 hh29 K30 => ?_)
  have br28 := xc_rng r28
  have K31 := xk_tr K9 K30 rfl
  obtain ⟨u32, u33, bu32, bu33, A34⟩ := xq_0 K31.1
  have e35 : u4 = u33 := xk_eqi (q := 9) K30 rfl A12 A34 rfl rfl
  subst e35
  obtain ⟨u36, u37, u38, u39, u40, u41, u42, u43, u44, u45, u46, u47, u48, bu36, bu37, bu38, bu39, bu40, bu41, bu42, bu43, bu44, bu45, bu46, bu47, bu48, A49⟩ := xq_115 K31.1
  have e50 : u15 = u37 := xk_eqi (q := 1) K30 rfl A27 A49 rfl rfl
  subst e50
  show xw J ov 100 195 (586, [(4, .int x4), (3, .ref 167), (2, .ref 115), (1, .ref 0), (0, .ref 1000000)], [.int r28], hh29) _
  refine xi_pop (pc' := 587) kc_195_586 rfl rfl ?_
  refine xi_goto (pc' := 1501) kc_195_587 rfl ?_
  obtain ⟨v51, ev51⟩ : ∃ q : Int32, x4 + 6 = q := ⟨_, rfl⟩
  have zv51 : v51.toInt = (x4.toInt + 6) := by rw [← ev51]; exact (xz_add (X := x4.toInt) (Y := 6) rfl (by decide) (by omega) (by omega)).trans (by omega)
  refine xi_iinc (pc' := 1504) (x := x4) (v := v51) (lv' := [(4, .int v51), (3, .ref 167), (2, .ref 115), (1, .ref 0), (0, .ref 1000000)]) kc_195_1501 rfl rfl ev51 rfl (xm_lt ml_195 rfl) ?_
  refine xi_goto (pc' := 23) kc_195_1504 rfl ?_
  exact kk v51 hh29 (by omega) K31
set_option maxHeartbeats 8000000 in
theorem lc_10 {J : xe_J} {ov : List (List Int32)} (hJ : ∀ d mj as h, mj ≠ xe_loff → J d mj as h = none) (hov1 : ov[1]? = some [10, 0, 0, 0, 0, 0]) (hov2 : ov[2]? = some [99, 30, 50, 50, 1, 99999]) {xs : List Int32} (hov0 : ov[0]? = some xs) {Q : Option Value → xe_H → Prop} {h : xe_H} {x4 : Int32} (hi0 : 0 ≤ x4.toInt) (hi1 : x4.toInt + 6 ≤ xs.length) (hi2 : x4.toInt ≤ 3066) (T : xt h) (kk : ∀ (i : Int32) (h' : xe_H), i.toInt = x4.toInt + 6 → xk [(6, 0), (123, 0), (9, 0), (124, 0)] h h' → xw J ov 100 195 (23, [(4, .int i), (3, .ref 167), (2, .ref 115), (1, .ref 0), (0, .ref 1000000)], [], h') Q) : xw J ov 100 195 (590, [(4, .int x4), (3, .ref 167), (2, .ref 115), (1, .ref 0), (0, .ref 1000000)], [], h) Q := by
  have K : xk [(6, 0), (123, 0), (9, 0), (124, 0)] h h := xk_re T
  refine xi_aload_n (pc' := 591) (x := 0) kc_195_590 rfl rfl ?_
  refine xi_aload_n (pc' := 592) (x := 1000000) kc_195_591 rfl rfl ?_
  refine xi_iload (pc' := 594) (x := x4) kc_195_592 rfl rfl ?_
  refine xi_iconst (pc' := 595) (v := 1) kc_195_594 rfl rfl ?_
  obtain ⟨v1, ev1⟩ : ∃ q : Int32, x4 + 1 = q := ⟨_, rfl⟩
  have zv1 : v1.toInt = (x4.toInt + 1) := by rw [← ev1]; exact (xz_add (X := x4.toInt) (Y := 1) rfl (by decide) (by omega) (by omega)).trans (by omega)
  refine xi_iadd (pc' := 596) (v := v1) kc_195_595 rfl ev1 ?_
  obtain ⟨a2, ea2⟩ : ∃ q : Int32, xs.getD (Int32.toNatClampNeg v1) 0 = q := ⟨_, rfl⟩
  have ra2 := xc_rng a2
  refine xi_ialoadO (pc' := 597) (v := a2) kc_195_596 rfl (by decide) hov0 (xi_in (by omega) (by omega)) ea2 ?_
  refine xi_aload_n (pc' := 598) (x := 1000000) kc_195_597 rfl rfl ?_
  refine xi_iload (pc' := 600) (x := x4) kc_195_598 rfl rfl ?_
  refine xi_iconst (pc' := 601) (v := 2) kc_195_600 rfl rfl ?_
  obtain ⟨v3, ev3⟩ : ∃ q : Int32, x4 + 2 = q := ⟨_, rfl⟩
  have zv3 : v3.toInt = (x4.toInt + 2) := by rw [← ev3]; exact (xz_add (X := x4.toInt) (Y := 2) rfl (by decide) (by omega) (by omega)).trans (by omega)
  refine xi_iadd (pc' := 602) (v := v3) kc_195_601 rfl ev3 ?_
  obtain ⟨a4, ea4⟩ : ∃ q : Int32, xs.getD (Int32.toNatClampNeg v3) 0 = q := ⟨_, rfl⟩
  have ra4 := xc_rng a4
  refine xi_ialoadO (pc' := 603) (v := a4) kc_195_602 rfl (by decide) hov0 (xi_in (by omega) (by omega)) ea4 ?_
  refine xi_aload_n (pc' := 604) (x := 1000000) kc_195_603 rfl rfl ?_
  refine xi_iload (pc' := 606) (x := x4) kc_195_604 rfl rfl ?_
  refine xi_iconst (pc' := 607) (v := 3) kc_195_606 rfl rfl ?_
  obtain ⟨v5, ev5⟩ : ∃ q : Int32, x4 + 3 = q := ⟨_, rfl⟩
  have zv5 : v5.toInt = (x4.toInt + 3) := by rw [← ev5]; exact (xz_add (X := x4.toInt) (Y := 3) rfl (by decide) (by omega) (by omega)).trans (by omega)
  refine xi_iadd (pc' := 608) (v := v5) kc_195_607 rfl ev5 ?_
  obtain ⟨a6, ea6⟩ : ∃ q : Int32, xs.getD (Int32.toNatClampNeg v5) 0 = q := ⟨_, rfl⟩
  have ra6 := xc_rng a6
  refine xi_ialoadO (pc' := 609) (v := a6) kc_195_608 rfl (by decide) hov0 (xi_in (by omega) (by omega)) ea6 ?_
  refine xi_aload_n (pc' := 610) (x := 1000000) kc_195_609 rfl rfl ?_
  refine xi_iload (pc' := 612) (x := x4) kc_195_610 rfl rfl ?_
  refine xi_iconst (pc' := 613) (v := 4) kc_195_612 rfl rfl ?_
  obtain ⟨v7, ev7⟩ : ∃ q : Int32, x4 + 4 = q := ⟨_, rfl⟩
  have zv7 : v7.toInt = (x4.toInt + 4) := by rw [← ev7]; exact (xz_add (X := x4.toInt) (Y := 4) rfl (by decide) (by omega) (by omega)).trans (by omega)
  refine xi_iadd (pc' := 614) (v := v7) kc_195_613 rfl ev7 ?_
  obtain ⟨a8, ea8⟩ : ∃ q : Int32, xs.getD (Int32.toNatClampNeg v7) 0 = q := ⟨_, rfl⟩
  have ra8 := xc_rng a8
  refine xi_ialoadO (pc' := 615) (v := a8) kc_195_614 rfl (by decide) hov0 (xi_in (by omega) (by omega)) ea8 ?_
  obtain ⟨u9, u10, bu9, bu10, A11⟩ := xq_0 K.1
  refine xi_virtual (mj := 113) (as := [.int a2, .int a4, .int a6, .int a8]) (st1 := []) (lv0 := [(0, .ref 0), (1, .int a2), (2, .int a4), (3, .int a6), (4, .int a8)]) kc_195_615 rfl rfl rfl rfl rfl A11 (Nat.le_of_ble_eq_true rfl) (hJ _ _ _ _ (by decide)) (xm_le ml_113 rfl) rfl ?_
  refine mt_113_0 hJ hov1 hov2 (d := 96) (x1 := a2) (x2 := a4) (x3 := a6) (x4 := a8) K.1 (fun r12 hh13 br12 K14 => ?_)
  have K15 := xk_tr K K14 rfl
  obtain ⟨u16, u17, bu16, bu17, A18⟩ := xq_0 K15.1
  have e19 : u10 = u17 := xk_eqi (q := 9) K14 rfl A11 A18 rfl rfl
  subst e19
  show xw J ov 100 195 (618, [(4, .int x4), (3, .ref 167), (2, .ref 115), (1, .ref 0), (0, .ref 1000000)], [.int r12], hh13) _
  refine xi_pop (pc' := 619) kc_195_618 rfl rfl ?_
  refine xi_aload_n (pc' := 620) (x := 115) kc_195_619 rfl rfl ?_
  refine xi_aload_n (pc' := 621) (x := 1000000) kc_195_620 rfl rfl ?_
  refine xi_iload (pc' := 623) (x := x4) kc_195_621 rfl rfl ?_
  refine xi_iconst (pc' := 624) (v := 1) kc_195_623 rfl rfl ?_
  refine xi_iadd (pc' := 625) (v := v1) kc_195_624 rfl ev1 ?_
  refine xi_ialoadO (pc' := 626) (v := a2) kc_195_625 rfl (by decide) hov0 (xi_in (by omega) (by omega)) ea2 ?_
  refine xi_aload_n (pc' := 627) (x := 1000000) kc_195_626 rfl rfl ?_
  refine xi_iload (pc' := 629) (x := x4) kc_195_627 rfl rfl ?_
  refine xi_iconst (pc' := 630) (v := 2) kc_195_629 rfl rfl ?_
  refine xi_iadd (pc' := 631) (v := v3) kc_195_630 rfl ev3 ?_
  refine xi_ialoadO (pc' := 632) (v := a4) kc_195_631 rfl (by decide) hov0 (xi_in (by omega) (by omega)) ea4 ?_
  refine xi_aload_n (pc' := 633) (x := 1000000) kc_195_632 rfl rfl ?_
  refine xi_iload (pc' := 635) (x := x4) kc_195_633 rfl rfl ?_
  refine xi_iconst (pc' := 636) (v := 3) kc_195_635 rfl rfl ?_
  refine xi_iadd (pc' := 637) (v := v5) kc_195_636 rfl ev5 ?_
  refine xi_ialoadO (pc' := 638) (v := a6) kc_195_637 rfl (by decide) hov0 (xi_in (by omega) (by omega)) ea6 ?_
  refine xi_aload_n (pc' := 639) (x := 1000000) kc_195_638 rfl rfl ?_
  refine xi_iload (pc' := 641) (x := x4) kc_195_639 rfl rfl ?_
  refine xi_iconst (pc' := 642) (v := 4) kc_195_641 rfl rfl ?_
  refine xi_iadd (pc' := 643) (v := v7) kc_195_642 rfl ev7 ?_
  refine xi_ialoadO (pc' := 644) (v := a8) kc_195_643 rfl (by decide) hov0 (xi_in (by omega) (by omega)) ea8 ?_
  obtain ⟨u20, u21, u22, u23, u24, u25, u26, u27, u28, u29, u30, u31, u32, bu20, bu21, bu22, bu23, bu24, bu25, bu26, bu27, bu28, bu29, bu30, bu31, bu32, A33⟩ := xq_115 K15.1
  refine xi_virtual (mj := 30) (as := [.int a2, .int a4, .int a6, .int a8]) (st1 := []) (lv0 := [(0, .ref 115), (1, .int a2), (2, .int a4), (3, .int a6), (4, .int a8)]) kc_195_644 rfl rfl rfl rfl rfl A33 (Nat.le_of_ble_eq_true rfl) (hJ _ _ _ _ (by decide)) (xm_le ml_30 rfl) rfl ?_
  refine mt_30_0 hJ hov1 hov2 (d := 96) (x1 := a2) (x2 := a4) (x3 := a6) (x4 := a8) K15.1 (fun r34 hh35 br34 K36 => ?_)
  have K37 := xk_tr K15 K36 rfl
  obtain ⟨u38, u39, bu38, bu39, A40⟩ := xq_0 K37.1
  have e41 : u10 = u39 := xk_eqi (q := 9) K36 rfl A18 A40 rfl rfl
  subst e41
  obtain ⟨u42, u43, u44, u45, u46, u47, u48, u49, u50, u51, u52, u53, u54, bu42, bu43, bu44, bu45, bu46, bu47, bu48, bu49, bu50, bu51, bu52, bu53, bu54, A55⟩ := xq_115 K37.1
  have e56 : u21 = u43 := xk_eqi (q := 1) K36 rfl A33 A55 rfl rfl
  subst e56
  show xw J ov 100 195 (647, [(4, .int x4), (3, .ref 167), (2, .ref 115), (1, .ref 0), (0, .ref 1000000)], [.int r34], hh35) _
  refine xi_pop (pc' := 648) kc_195_647 rfl rfl ?_
  refine xi_goto (pc' := 1501) kc_195_648 rfl ?_
  obtain ⟨v57, ev57⟩ : ∃ q : Int32, x4 + 6 = q := ⟨_, rfl⟩
  have zv57 : v57.toInt = (x4.toInt + 6) := by rw [← ev57]; exact (xz_add (X := x4.toInt) (Y := 6) rfl (by decide) (by omega) (by omega)).trans (by omega)
  refine xi_iinc (pc' := 1504) (x := x4) (v := v57) (lv' := [(4, .int v57), (3, .ref 167), (2, .ref 115), (1, .ref 0), (0, .ref 1000000)]) kc_195_1501 rfl rfl ev57 rfl (xm_lt ml_195 rfl) ?_
  refine xi_goto (pc' := 23) kc_195_1504 rfl ?_
  exact kk v57 hh35 (by omega) K37
set_option maxHeartbeats 8000000 in
theorem lc_11 {J : xe_J} {ov : List (List Int32)} (hJ : ∀ d mj as h, mj ≠ xe_loff → J d mj as h = none) (hov1 : ov[1]? = some [10, 0, 0, 0, 0, 0]) (hov2 : ov[2]? = some [99, 30, 50, 50, 1, 99999]) {xs : List Int32} (hov0 : ov[0]? = some xs) {Q : Option Value → xe_H → Prop} {h : xe_H} {x4 : Int32} (hi0 : 0 ≤ x4.toInt) (hi1 : x4.toInt + 6 ≤ xs.length) (hi2 : x4.toInt ≤ 3066) (T : xt h) (kk : ∀ (i : Int32) (h' : xe_H), i.toInt = x4.toInt + 6 → xk [(6, 0), (123, 0), (9, 0), (124, 0)] h h' → xw J ov 100 195 (23, [(4, .int i), (3, .ref 167), (2, .ref 115), (1, .ref 0), (0, .ref 1000000)], [], h') Q) : xw J ov 100 195 (651, [(4, .int x4), (3, .ref 167), (2, .ref 115), (1, .ref 0), (0, .ref 1000000)], [], h) Q := by
  have K : xk [(6, 0), (123, 0), (9, 0), (124, 0)] h h := xk_re T
  refine xi_aload_n (pc' := 652) (x := 0) kc_195_651 rfl rfl ?_
  refine xi_aload_n (pc' := 653) (x := 1000000) kc_195_652 rfl rfl ?_
  refine xi_iload (pc' := 655) (x := x4) kc_195_653 rfl rfl ?_
  refine xi_iconst (pc' := 656) (v := 1) kc_195_655 rfl rfl ?_
  obtain ⟨v1, ev1⟩ : ∃ q : Int32, x4 + 1 = q := ⟨_, rfl⟩
  have zv1 : v1.toInt = (x4.toInt + 1) := by rw [← ev1]; exact (xz_add (X := x4.toInt) (Y := 1) rfl (by decide) (by omega) (by omega)).trans (by omega)
  refine xi_iadd (pc' := 657) (v := v1) kc_195_656 rfl ev1 ?_
  obtain ⟨a2, ea2⟩ : ∃ q : Int32, xs.getD (Int32.toNatClampNeg v1) 0 = q := ⟨_, rfl⟩
  have ra2 := xc_rng a2
  refine xi_ialoadO (pc' := 658) (v := a2) kc_195_657 rfl (by decide) hov0 (xi_in (by omega) (by omega)) ea2 ?_
  refine xi_aload_n (pc' := 659) (x := 1000000) kc_195_658 rfl rfl ?_
  refine xi_iload (pc' := 661) (x := x4) kc_195_659 rfl rfl ?_
  refine xi_iconst (pc' := 662) (v := 2) kc_195_661 rfl rfl ?_
  obtain ⟨v3, ev3⟩ : ∃ q : Int32, x4 + 2 = q := ⟨_, rfl⟩
  have zv3 : v3.toInt = (x4.toInt + 2) := by rw [← ev3]; exact (xz_add (X := x4.toInt) (Y := 2) rfl (by decide) (by omega) (by omega)).trans (by omega)
  refine xi_iadd (pc' := 663) (v := v3) kc_195_662 rfl ev3 ?_
  obtain ⟨a4, ea4⟩ : ∃ q : Int32, xs.getD (Int32.toNatClampNeg v3) 0 = q := ⟨_, rfl⟩
  have ra4 := xc_rng a4
  refine xi_ialoadO (pc' := 664) (v := a4) kc_195_663 rfl (by decide) hov0 (xi_in (by omega) (by omega)) ea4 ?_
  refine xi_aload_n (pc' := 665) (x := 1000000) kc_195_664 rfl rfl ?_
  refine xi_iload (pc' := 667) (x := x4) kc_195_665 rfl rfl ?_
  refine xi_iconst (pc' := 668) (v := 3) kc_195_667 rfl rfl ?_
  obtain ⟨v5, ev5⟩ : ∃ q : Int32, x4 + 3 = q := ⟨_, rfl⟩
  have zv5 : v5.toInt = (x4.toInt + 3) := by rw [← ev5]; exact (xz_add (X := x4.toInt) (Y := 3) rfl (by decide) (by omega) (by omega)).trans (by omega)
  refine xi_iadd (pc' := 669) (v := v5) kc_195_668 rfl ev5 ?_
  obtain ⟨a6, ea6⟩ : ∃ q : Int32, xs.getD (Int32.toNatClampNeg v5) 0 = q := ⟨_, rfl⟩
  have ra6 := xc_rng a6
  refine xi_ialoadO (pc' := 670) (v := a6) kc_195_669 rfl (by decide) hov0 (xi_in (by omega) (by omega)) ea6 ?_
  refine xi_aload_n (pc' := 671) (x := 1000000) kc_195_670 rfl rfl ?_
  refine xi_iload (pc' := 673) (x := x4) kc_195_671 rfl rfl ?_
  refine xi_iconst (pc' := 674) (v := 4) kc_195_673 rfl rfl ?_
  obtain ⟨v7, ev7⟩ : ∃ q : Int32, x4 + 4 = q := ⟨_, rfl⟩
  have zv7 : v7.toInt = (x4.toInt + 4) := by rw [← ev7]; exact (xz_add (X := x4.toInt) (Y := 4) rfl (by decide) (by omega) (by omega)).trans (by omega)
  refine xi_iadd (pc' := 675) (v := v7) kc_195_674 rfl ev7 ?_
  obtain ⟨a8, ea8⟩ : ∃ q : Int32, xs.getD (Int32.toNatClampNeg v7) 0 = q := ⟨_, rfl⟩
  have ra8 := xc_rng a8
  refine xi_ialoadO (pc' := 676) (v := a8) kc_195_675 rfl (by decide) hov0 (xi_in (by omega) (by omega)) ea8 ?_
  obtain ⟨u9, u10, bu9, bu10, A11⟩ := xq_0 K.1
  refine xi_virtual (mj := 116) (as := [.int a2, .int a4, .int a6, .int a8]) (st1 := []) (lv0 := [(0, .ref 0), (1, .int a2), (2, .int a4), (3, .int a6), (4, .int a8)]) kc_195_676 rfl rfl rfl rfl rfl A11 (Nat.le_of_ble_eq_true rfl) (hJ _ _ _ _ (by decide)) (xm_le ml_116 rfl) rfl ?_
  refine mt_116_0 hJ hov1 hov2 (d := 95) (x1 := a2) (x2 := a4) (x3 := a6) (x4 := a8) K.1 (fun r12 hh13 br12 K14 => ?_)
  have K15 := xk_tr K K14 rfl
  obtain ⟨u16, u17, bu16, bu17, A18⟩ := xq_0 K15.1
  have e19 : u10 = u17 := xk_eqi (q := 9) K14 rfl A11 A18 rfl rfl
  subst e19
  show xw J ov 100 195 (679, [(4, .int x4), (3, .ref 167), (2, .ref 115), (1, .ref 0), (0, .ref 1000000)], [.int r12], hh13) _
  refine xi_pop (pc' := 680) kc_195_679 rfl rfl ?_
  refine xi_aload_n (pc' := 681) (x := 115) kc_195_680 rfl rfl ?_
  refine xi_aload_n (pc' := 682) (x := 1000000) kc_195_681 rfl rfl ?_
  refine xi_iload (pc' := 684) (x := x4) kc_195_682 rfl rfl ?_
  refine xi_iconst (pc' := 685) (v := 1) kc_195_684 rfl rfl ?_
  refine xi_iadd (pc' := 686) (v := v1) kc_195_685 rfl ev1 ?_
  refine xi_ialoadO (pc' := 687) (v := a2) kc_195_686 rfl (by decide) hov0 (xi_in (by omega) (by omega)) ea2 ?_
  refine xi_aload_n (pc' := 688) (x := 1000000) kc_195_687 rfl rfl ?_
  refine xi_iload (pc' := 690) (x := x4) kc_195_688 rfl rfl ?_
  refine xi_iconst (pc' := 691) (v := 2) kc_195_690 rfl rfl ?_
  refine xi_iadd (pc' := 692) (v := v3) kc_195_691 rfl ev3 ?_
  refine xi_ialoadO (pc' := 693) (v := a4) kc_195_692 rfl (by decide) hov0 (xi_in (by omega) (by omega)) ea4 ?_
  refine xi_aload_n (pc' := 694) (x := 1000000) kc_195_693 rfl rfl ?_
  refine xi_iload (pc' := 696) (x := x4) kc_195_694 rfl rfl ?_
  refine xi_iconst (pc' := 697) (v := 3) kc_195_696 rfl rfl ?_
  refine xi_iadd (pc' := 698) (v := v5) kc_195_697 rfl ev5 ?_
  refine xi_ialoadO (pc' := 699) (v := a6) kc_195_698 rfl (by decide) hov0 (xi_in (by omega) (by omega)) ea6 ?_
  refine xi_aload_n (pc' := 700) (x := 1000000) kc_195_699 rfl rfl ?_
  refine xi_iload (pc' := 702) (x := x4) kc_195_700 rfl rfl ?_
  refine xi_iconst (pc' := 703) (v := 4) kc_195_702 rfl rfl ?_
  refine xi_iadd (pc' := 704) (v := v7) kc_195_703 rfl ev7 ?_
  refine xi_ialoadO (pc' := 705) (v := a8) kc_195_704 rfl (by decide) hov0 (xi_in (by omega) (by omega)) ea8 ?_
  obtain ⟨u20, u21, u22, u23, u24, u25, u26, u27, u28, u29, u30, u31, u32, bu20, bu21, bu22, bu23, bu24, bu25, bu26, bu27, bu28, bu29, bu30, bu31, bu32, A33⟩ := xq_115 K15.1
  refine xi_virtual (mj := 32) (as := [.int a2, .int a4, .int a6, .int a8]) (st1 := []) (lv0 := [(0, .ref 115), (1, .int a2), (2, .int a4), (3, .int a6), (4, .int a8)]) kc_195_705 rfl rfl rfl rfl rfl A33 (Nat.le_of_ble_eq_true rfl) (hJ _ _ _ _ (by decide)) (xm_le ml_32 rfl) rfl ?_
  refine mt_32_0 hJ hov1 hov2 (d := 96) (x1 := a2) (x2 := a4) (x3 := a6) (x4 := a8) K15.1 (fun r34 hh35 br34 K36 => ?_)
  have K37 := xk_tr K15 K36 rfl
  obtain ⟨u38, u39, bu38, bu39, A40⟩ := xq_0 K37.1
  have e41 : u10 = u39 := xk_eqi (q := 9) K36 rfl A18 A40 rfl rfl
  subst e41
  obtain ⟨u42, u43, u44, u45, u46, u47, u48, u49, u50, u51, u52, u53, u54, bu42, bu43, bu44, bu45, bu46, bu47, bu48, bu49, bu50, bu51, bu52, bu53, bu54, A55⟩ := xq_115 K37.1
  have e56 : u21 = u43 := xk_eqi (q := 1) K36 rfl A33 A55 rfl rfl
  subst e56
  show xw J ov 100 195 (708, [(4, .int x4), (3, .ref 167), (2, .ref 115), (1, .ref 0), (0, .ref 1000000)], [.int r34], hh35) _
  refine xi_pop (pc' := 709) kc_195_708 rfl rfl ?_
  refine xi_goto (pc' := 1501) kc_195_709 rfl ?_
  obtain ⟨v57, ev57⟩ : ∃ q : Int32, x4 + 6 = q := ⟨_, rfl⟩
  have zv57 : v57.toInt = (x4.toInt + 6) := by rw [← ev57]; exact (xz_add (X := x4.toInt) (Y := 6) rfl (by decide) (by omega) (by omega)).trans (by omega)
  refine xi_iinc (pc' := 1504) (x := x4) (v := v57) (lv' := [(4, .int v57), (3, .ref 167), (2, .ref 115), (1, .ref 0), (0, .ref 1000000)]) kc_195_1501 rfl rfl ev57 rfl (xm_lt ml_195 rfl) ?_
  refine xi_goto (pc' := 23) kc_195_1504 rfl ?_
  exact kk v57 hh35 (by omega) K37
set_option maxHeartbeats 8000000 in
theorem lc_12 {J : xe_J} {ov : List (List Int32)} (hJ : ∀ d mj as h, mj ≠ xe_loff → J d mj as h = none) (hov1 : ov[1]? = some [10, 0, 0, 0, 0, 0]) (hov2 : ov[2]? = some [99, 30, 50, 50, 1, 99999]) {xs : List Int32} (hov0 : ov[0]? = some xs) {Q : Option Value → xe_H → Prop} {h : xe_H} {x4 : Int32} (hi0 : 0 ≤ x4.toInt) (hi1 : x4.toInt + 6 ≤ xs.length) (hi2 : x4.toInt ≤ 3066) (T : xt h) (kk : ∀ (i : Int32) (h' : xe_H), i.toInt = x4.toInt + 6 → xk [(6, 0), (123, 0), (9, 0), (124, 0)] h h' → xw J ov 100 195 (23, [(4, .int i), (3, .ref 167), (2, .ref 115), (1, .ref 0), (0, .ref 1000000)], [], h') Q) : xw J ov 100 195 (712, [(4, .int x4), (3, .ref 167), (2, .ref 115), (1, .ref 0), (0, .ref 1000000)], [], h) Q := by
  have K : xk [(6, 0), (123, 0), (9, 0), (124, 0)] h h := xk_re T
  refine xi_aload_n (pc' := 713) (x := 0) kc_195_712 rfl rfl ?_
  refine xi_aload_n (pc' := 714) (x := 1000000) kc_195_713 rfl rfl ?_
  refine xi_iload (pc' := 716) (x := x4) kc_195_714 rfl rfl ?_
  refine xi_iconst (pc' := 717) (v := 1) kc_195_716 rfl rfl ?_
  obtain ⟨v1, ev1⟩ : ∃ q : Int32, x4 + 1 = q := ⟨_, rfl⟩
  have zv1 : v1.toInt = (x4.toInt + 1) := by rw [← ev1]; exact (xz_add (X := x4.toInt) (Y := 1) rfl (by decide) (by omega) (by omega)).trans (by omega)
  refine xi_iadd (pc' := 718) (v := v1) kc_195_717 rfl ev1 ?_
  obtain ⟨a2, ea2⟩ : ∃ q : Int32, xs.getD (Int32.toNatClampNeg v1) 0 = q := ⟨_, rfl⟩
  have ra2 := xc_rng a2
  refine xi_ialoadO (pc' := 719) (v := a2) kc_195_718 rfl (by decide) hov0 (xi_in (by omega) (by omega)) ea2 ?_
  refine xi_aload_n (pc' := 720) (x := 1000000) kc_195_719 rfl rfl ?_
  refine xi_iload (pc' := 722) (x := x4) kc_195_720 rfl rfl ?_
  refine xi_iconst (pc' := 723) (v := 2) kc_195_722 rfl rfl ?_
  obtain ⟨v3, ev3⟩ : ∃ q : Int32, x4 + 2 = q := ⟨_, rfl⟩
  have zv3 : v3.toInt = (x4.toInt + 2) := by rw [← ev3]; exact (xz_add (X := x4.toInt) (Y := 2) rfl (by decide) (by omega) (by omega)).trans (by omega)
  refine xi_iadd (pc' := 724) (v := v3) kc_195_723 rfl ev3 ?_
  obtain ⟨a4, ea4⟩ : ∃ q : Int32, xs.getD (Int32.toNatClampNeg v3) 0 = q := ⟨_, rfl⟩
  have ra4 := xc_rng a4
  refine xi_ialoadO (pc' := 725) (v := a4) kc_195_724 rfl (by decide) hov0 (xi_in (by omega) (by omega)) ea4 ?_
  by_cases c5 : a4.toInt = 0
  · refine xi_ift (pc' := 732) kc_195_725 rfl (xc_eq_t (X := a4.toInt) (Y := 0) rfl (by decide) (by omega)) ?_
    refine xi_iconst (pc' := 733) (v := 0) kc_195_732 rfl rfl ?_
    obtain ⟨u6, u7, bu6, bu7, A8⟩ := xq_0 K.1
    refine xi_virtual (mj := 120) (as := [.int a2, .int 0]) (st1 := []) (lv0 := [(0, .ref 0), (1, .int a2), (2, .int 0)]) kc_195_733 rfl rfl rfl rfl rfl A8 (Nat.le_of_ble_eq_true rfl) (hJ _ _ _ _ (by decide)) (xm_le ml_120 rfl) rfl ?_
    have zc0 : (0 : Int32).toInt = 0 := by decide
    refine mt_120_0 hJ hov1 hov2 (d := 98) (x1 := a2) (x2 := 0) K.1 (by first | omega | decide) (fun r9 hh10 br9 K11 => ?_)
    have K12 := xk_tr K K11 rfl
    obtain ⟨u13, u14, bu13, bu14, A15⟩ := xq_0 K12.1
    have e16 : u7 = u14 := xk_eqi (q := 9) K11 rfl A8 A15 rfl rfl
    subst e16
    show xw J ov 100 195 (736, [(4, .int x4), (3, .ref 167), (2, .ref 115), (1, .ref 0), (0, .ref 1000000)], [.int r9], hh10) _
    refine xi_pop (pc' := 737) kc_195_736 rfl rfl ?_
    refine xi_aload_n (pc' := 738) (x := 115) kc_195_737 rfl rfl ?_
    refine xi_aload_n (pc' := 739) (x := 1000000) kc_195_738 rfl rfl ?_
    refine xi_iload (pc' := 741) (x := x4) kc_195_739 rfl rfl ?_
    refine xi_iconst (pc' := 742) (v := 1) kc_195_741 rfl rfl ?_
    refine xi_iadd (pc' := 743) (v := v1) kc_195_742 rfl ev1 ?_
    refine xi_ialoadO (pc' := 744) (v := a2) kc_195_743 rfl (by decide) hov0 (xi_in (by omega) (by omega)) ea2 ?_
    refine xi_aload_n (pc' := 745) (x := 1000000) kc_195_744 rfl rfl ?_
    refine xi_iload (pc' := 747) (x := x4) kc_195_745 rfl rfl ?_
    refine xi_iconst (pc' := 748) (v := 2) kc_195_747 rfl rfl ?_
    refine xi_iadd (pc' := 749) (v := v3) kc_195_748 rfl ev3 ?_
    refine xi_ialoadO (pc' := 750) (v := a4) kc_195_749 rfl (by decide) hov0 (xi_in (by omega) (by omega)) ea4 ?_
    refine xi_ift (pc' := 757) kc_195_750 rfl (xc_eq_t (X := a4.toInt) (Y := 0) rfl (by decide) (by omega)) ?_
    refine xi_iconst (pc' := 758) (v := 0) kc_195_757 rfl rfl ?_
    obtain ⟨u17, u18, u19, u20, u21, u22, u23, u24, u25, u26, u27, u28, u29, bu17, bu18, bu19, bu20, bu21, bu22, bu23, bu24, bu25, bu26, bu27, bu28, bu29, A30⟩ := xq_115 K12.1
    refine xi_virtual (mj := 33) (as := [.int a2, .int 0]) (st1 := []) (lv0 := [(0, .ref 115), (1, .int a2), (2, .int 0)]) kc_195_758 rfl rfl rfl rfl rfl A30 (Nat.le_of_ble_eq_true rfl) (hJ _ _ _ _ (by decide)) (xm_le ml_33 rfl) rfl ?_
    have zc0 : (0 : Int32).toInt = 0 := by decide
    refine mt_33_0 hJ hov1 hov2 (d := 98) (x1 := a2) (x2 := 0) K12.1 (by first | omega | decide) (fun r31 hh32 br31 K33 => ?_)
    have K34 := xk_tr K12 K33 rfl
    obtain ⟨u35, u36, bu35, bu36, A37⟩ := xq_0 K34.1
    have e38 : u7 = u36 := xk_eqi (q := 9) K33 rfl A15 A37 rfl rfl
    subst e38
    obtain ⟨u39, u40, u41, u42, u43, u44, u45, u46, u47, u48, u49, u50, u51, bu39, bu40, bu41, bu42, bu43, bu44, bu45, bu46, bu47, bu48, bu49, bu50, bu51, A52⟩ := xq_115 K34.1
    have e53 : u18 = u40 := xk_eqi (q := 1) K33 rfl A30 A52 rfl rfl
    subst e53
    show xw J ov 100 195 (761, [(4, .int x4), (3, .ref 167), (2, .ref 115), (1, .ref 0), (0, .ref 1000000)], [.int r31], hh32) _
    refine xi_pop (pc' := 762) kc_195_761 rfl rfl ?_
    refine xi_goto (pc' := 1501) kc_195_762 rfl ?_
    obtain ⟨v54, ev54⟩ : ∃ q : Int32, x4 + 6 = q := ⟨_, rfl⟩
    have zv54 : v54.toInt = (x4.toInt + 6) := by rw [← ev54]; exact (xz_add (X := x4.toInt) (Y := 6) rfl (by decide) (by omega) (by omega)).trans (by omega)
    refine xi_iinc (pc' := 1504) (x := x4) (v := v54) (lv' := [(4, .int v54), (3, .ref 167), (2, .ref 115), (1, .ref 0), (0, .ref 1000000)]) kc_195_1501 rfl rfl ev54 rfl (xm_lt ml_195 rfl) ?_
    refine xi_goto (pc' := 23) kc_195_1504 rfl ?_
    exact kk v54 hh32 (by omega) K34
  · refine xi_iff (pc' := 728) kc_195_725 rfl (xc_eq_f (X := a4.toInt) (Y := 0) rfl (by decide) (by omega)) ?_
    refine xi_iconst (pc' := 729) (v := 1) kc_195_728 rfl rfl ?_
    refine xi_goto (pc' := 733) kc_195_729 rfl ?_
    obtain ⟨u55, u56, bu55, bu56, A57⟩ := xq_0 K.1
    refine xi_virtual (mj := 120) (as := [.int a2, .int 1]) (st1 := []) (lv0 := [(0, .ref 0), (1, .int a2), (2, .int 1)]) kc_195_733 rfl rfl rfl rfl rfl A57 (Nat.le_of_ble_eq_true rfl) (hJ _ _ _ _ (by decide)) (xm_le ml_120 rfl) rfl ?_
    have zc1 : (1 : Int32).toInt = 1 := by decide
    refine mt_120_0 hJ hov1 hov2 (d := 98) (x1 := a2) (x2 := 1) K.1 (by first | omega | decide) (fun r58 hh59 br58 K60 => ?_)
    have K61 := xk_tr K K60 rfl
    obtain ⟨u62, u63, bu62, bu63, A64⟩ := xq_0 K61.1
    have e65 : u56 = u63 := xk_eqi (q := 9) K60 rfl A57 A64 rfl rfl
    subst e65
    show xw J ov 100 195 (736, [(4, .int x4), (3, .ref 167), (2, .ref 115), (1, .ref 0), (0, .ref 1000000)], [.int r58], hh59) _
    refine xi_pop (pc' := 737) kc_195_736 rfl rfl ?_
    refine xi_aload_n (pc' := 738) (x := 115) kc_195_737 rfl rfl ?_
    refine xi_aload_n (pc' := 739) (x := 1000000) kc_195_738 rfl rfl ?_
    refine xi_iload (pc' := 741) (x := x4) kc_195_739 rfl rfl ?_
    refine xi_iconst (pc' := 742) (v := 1) kc_195_741 rfl rfl ?_
    refine xi_iadd (pc' := 743) (v := v1) kc_195_742 rfl ev1 ?_
    refine xi_ialoadO (pc' := 744) (v := a2) kc_195_743 rfl (by decide) hov0 (xi_in (by omega) (by omega)) ea2 ?_
    refine xi_aload_n (pc' := 745) (x := 1000000) kc_195_744 rfl rfl ?_
    refine xi_iload (pc' := 747) (x := x4) kc_195_745 rfl rfl ?_
    refine xi_iconst (pc' := 748) (v := 2) kc_195_747 rfl rfl ?_
    refine xi_iadd (pc' := 749) (v := v3) kc_195_748 rfl ev3 ?_
    refine xi_ialoadO (pc' := 750) (v := a4) kc_195_749 rfl (by decide) hov0 (xi_in (by omega) (by omega)) ea4 ?_
    refine xi_iff (pc' := 753) kc_195_750 rfl (xc_eq_f (X := a4.toInt) (Y := 0) rfl (by decide) (by omega)) ?_
    refine xi_iconst (pc' := 754) (v := 1) kc_195_753 rfl rfl ?_
    refine xi_goto (pc' := 758) kc_195_754 rfl ?_
    obtain ⟨u66, u67, u68, u69, u70, u71, u72, u73, u74, u75, u76, u77, u78, bu66, bu67, bu68, bu69, bu70, bu71, bu72, bu73, bu74, bu75, bu76, bu77, bu78, A79⟩ := xq_115 K61.1
    refine xi_virtual (mj := 33) (as := [.int a2, .int 1]) (st1 := []) (lv0 := [(0, .ref 115), (1, .int a2), (2, .int 1)]) kc_195_758 rfl rfl rfl rfl rfl A79 (Nat.le_of_ble_eq_true rfl) (hJ _ _ _ _ (by decide)) (xm_le ml_33 rfl) rfl ?_
    have zc1 : (1 : Int32).toInt = 1 := by decide
    refine mt_33_0 hJ hov1 hov2 (d := 98) (x1 := a2) (x2 := 1) K61.1 (by first | omega | decide) (fun r80 hh81 br80 K82 => ?_)
    have K83 := xk_tr K61 K82 rfl
    obtain ⟨u84, u85, bu84, bu85, A86⟩ := xq_0 K83.1
    have e87 : u56 = u85 := xk_eqi (q := 9) K82 rfl A64 A86 rfl rfl
    subst e87
    obtain ⟨u88, u89, u90, u91, u92, u93, u94, u95, u96, u97, u98, u99, u100, bu88, bu89, bu90, bu91, bu92, bu93, bu94, bu95, bu96, bu97, bu98, bu99, bu100, A101⟩ := xq_115 K83.1
    have e102 : u67 = u89 := xk_eqi (q := 1) K82 rfl A79 A101 rfl rfl
    subst e102
    show xw J ov 100 195 (761, [(4, .int x4), (3, .ref 167), (2, .ref 115), (1, .ref 0), (0, .ref 1000000)], [.int r80], hh81) _
    refine xi_pop (pc' := 762) kc_195_761 rfl rfl ?_
    refine xi_goto (pc' := 1501) kc_195_762 rfl ?_
    obtain ⟨v103, ev103⟩ : ∃ q : Int32, x4 + 6 = q := ⟨_, rfl⟩
    have zv103 : v103.toInt = (x4.toInt + 6) := by rw [← ev103]; exact (xz_add (X := x4.toInt) (Y := 6) rfl (by decide) (by omega) (by omega)).trans (by omega)
    refine xi_iinc (pc' := 1504) (x := x4) (v := v103) (lv' := [(4, .int v103), (3, .ref 167), (2, .ref 115), (1, .ref 0), (0, .ref 1000000)]) kc_195_1501 rfl rfl ev103 rfl (xm_lt ml_195 rfl) ?_
    refine xi_goto (pc' := 23) kc_195_1504 rfl ?_
    exact kk v103 hh81 (by omega) K83
set_option maxHeartbeats 8000000 in
theorem lc_13 {J : xe_J} {ov : List (List Int32)} (hJ : ∀ d mj as h, mj ≠ xe_loff → J d mj as h = none) (hov1 : ov[1]? = some [10, 0, 0, 0, 0, 0]) (hov2 : ov[2]? = some [99, 30, 50, 50, 1, 99999]) {xs : List Int32} (hov0 : ov[0]? = some xs) {Q : Option Value → xe_H → Prop} {h : xe_H} {x4 : Int32} (hi0 : 0 ≤ x4.toInt) (hi1 : x4.toInt + 6 ≤ xs.length) (hi2 : x4.toInt ≤ 3066) (T : xt h) (kk : ∀ (i : Int32) (h' : xe_H), i.toInt = x4.toInt + 6 → xk [(6, 0), (123, 0), (9, 0), (124, 0)] h h' → xw J ov 100 195 (23, [(4, .int i), (3, .ref 167), (2, .ref 115), (1, .ref 0), (0, .ref 1000000)], [], h') Q) : xw J ov 100 195 (765, [(4, .int x4), (3, .ref 167), (2, .ref 115), (1, .ref 0), (0, .ref 1000000)], [], h) Q := by
  have K : xk [(6, 0), (123, 0), (9, 0), (124, 0)] h h := xk_re T
  refine xi_aload_n (pc' := 766) (x := 0) kc_195_765 rfl rfl ?_
  refine xi_aload_n (pc' := 767) (x := 1000000) kc_195_766 rfl rfl ?_
  refine xi_iload (pc' := 769) (x := x4) kc_195_767 rfl rfl ?_
  refine xi_iconst (pc' := 770) (v := 1) kc_195_769 rfl rfl ?_
  obtain ⟨v1, ev1⟩ : ∃ q : Int32, x4 + 1 = q := ⟨_, rfl⟩
  have zv1 : v1.toInt = (x4.toInt + 1) := by rw [← ev1]; exact (xz_add (X := x4.toInt) (Y := 1) rfl (by decide) (by omega) (by omega)).trans (by omega)
  refine xi_iadd (pc' := 771) (v := v1) kc_195_770 rfl ev1 ?_
  obtain ⟨a2, ea2⟩ : ∃ q : Int32, xs.getD (Int32.toNatClampNeg v1) 0 = q := ⟨_, rfl⟩
  have ra2 := xc_rng a2
  refine xi_ialoadO (pc' := 772) (v := a2) kc_195_771 rfl (by decide) hov0 (xi_in (by omega) (by omega)) ea2 ?_
  obtain ⟨u3, u4, bu3, bu4, A5⟩ := xq_0 K.1
  refine xi_virtual (mj := 121) (as := [.int a2]) (st1 := []) (lv0 := [(0, .ref 0), (1, .int a2)]) kc_195_772 rfl rfl rfl rfl rfl A5 (Nat.le_of_ble_eq_true rfl) (hJ _ _ _ _ (by decide)) (xm_le ml_121 rfl) rfl ?_
  refine mt_121_0 hJ hov1 hov2 (d := 93) (x1 := a2) (u0 := u4) K.1 (by omega) (fun v e => by have e2 := xl_val (u := u4) A5 rfl e; subst e2; omega) (fun r6 hh7 br6 K8 => ?_)
  have K9 := xk_tr K K8 rfl
  show xw J ov 100 195 (775, [(4, .int x4), (3, .ref 167), (2, .ref 115), (1, .ref 0), (0, .ref 1000000)], [.int r6], hh7) _
  refine xi_pop (pc' := 776) kc_195_775 rfl rfl ?_
  refine xi_aload_n (pc' := 777) (x := 115) kc_195_776 rfl rfl ?_
  refine xi_aload_n (pc' := 778) (x := 1000000) kc_195_777 rfl rfl ?_
  refine xi_iload (pc' := 780) (x := x4) kc_195_778 rfl rfl ?_
  refine xi_iconst (pc' := 781) (v := 1) kc_195_780 rfl rfl ?_
  refine xi_iadd (pc' := 782) (v := v1) kc_195_781 rfl ev1 ?_
  refine xi_ialoadO (pc' := 783) (v := a2) kc_195_782 rfl (by decide) hov0 (xi_in (by omega) (by omega)) ea2 ?_
  obtain ⟨u10, u11, u12, u13, u14, u15, u16, u17, u18, u19, u20, u21, u22, bu10, bu11, bu12, bu13, bu14, bu15, bu16, bu17, bu18, bu19, bu20, bu21, bu22, A23⟩ := xq_115 K9.1
  refine xi_virtual (mj := 34) (as := [.int a2]) (st1 := []) (lv0 := [(0, .ref 115), (1, .int a2)]) kc_195_783 rfl rfl rfl rfl rfl A23 (Nat.le_of_ble_eq_true rfl) (hJ _ _ _ _ (by decide)) (xm_le ml_34 rfl) rfl ?_
  refine mt_34_0 hJ hov1 hov2 (d := 93) (x1 := a2) (u0 := u11) K9.1 (by omega) (fun v e => by have e2 := xl_val (u := u11) A23 rfl e; subst e2; omega) (fun r24 hh25 br24 K26 => ?_)
  have K27 := xk_tr K9 K26 rfl
  show xw J ov 100 195 (786, [(4, .int x4), (3, .ref 167), (2, .ref 115), (1, .ref 0), (0, .ref 1000000)], [.int r24], hh25) _
  refine xi_pop (pc' := 787) kc_195_786 rfl rfl ?_
  refine xi_goto (pc' := 1501) kc_195_787 rfl ?_
  obtain ⟨v28, ev28⟩ : ∃ q : Int32, x4 + 6 = q := ⟨_, rfl⟩
  have zv28 : v28.toInt = (x4.toInt + 6) := by rw [← ev28]; exact (xz_add (X := x4.toInt) (Y := 6) rfl (by decide) (by omega) (by omega)).trans (by omega)
  refine xi_iinc (pc' := 1504) (x := x4) (v := v28) (lv' := [(4, .int v28), (3, .ref 167), (2, .ref 115), (1, .ref 0), (0, .ref 1000000)]) kc_195_1501 rfl rfl ev28 rfl (xm_lt ml_195 rfl) ?_
  refine xi_goto (pc' := 23) kc_195_1504 rfl ?_
  exact kk v28 hh25 (by omega) K27
set_option maxHeartbeats 8000000 in
theorem lc_14 {J : xe_J} {ov : List (List Int32)} (hJ : ∀ d mj as h, mj ≠ xe_loff → J d mj as h = none) (hov1 : ov[1]? = some [10, 0, 0, 0, 0, 0]) (hov2 : ov[2]? = some [99, 30, 50, 50, 1, 99999]) {xs : List Int32} (hov0 : ov[0]? = some xs) (hoff : ∀ (v : Int32) (h : xe_H), xt h → h.length < xe_o → ∃ (r : Int32) (h' : xe_H), J 99 194 [.ref 0, .int v, .ref 167] h = some (some (.int r), h') ∧ xt h' ∧ (∀ l : Nat × Nat, List.elem l [(6, 0), (123, 0), (9, 0), (124, 0)] = true → xl h' l = xl h l) ∧ h'.length ≤ h.length + 1 ∧ xe_sz h' ≤ xe_sz h + 6) {Q : Option Value → xe_H → Prop} {h : xe_H} {x4 : Int32} (hi0 : 0 ≤ x4.toInt) (hi1 : x4.toInt + 6 ≤ xs.length) (hi2 : x4.toInt ≤ 3066) (T : xt h) (hn : h.length < xe_o) (kk : ∀ (i : Int32) (h' : xe_H), i.toInt = x4.toInt + 6 → xt h' → (∀ l : Nat × Nat, List.elem l [(6, 0), (123, 0), (9, 0), (124, 0)] = true → xl h' l = xl h l) → h'.length ≤ h.length + 1 → xe_sz h' ≤ xe_sz h + 6 → xw J ov 100 195 (23, [(4, .int i), (3, .ref 167), (2, .ref 115), (1, .ref 0), (0, .ref 1000000)], [], h') Q) : xw J ov 100 195 (790, [(4, .int x4), (3, .ref 167), (2, .ref 115), (1, .ref 0), (0, .ref 1000000)], [], h) Q := by
  have K : xk [(6, 0), (123, 0), (9, 0), (124, 0)] h h := xk_re T
  refine xi_aload_n (pc' := 791) (x := 0) kc_195_790 rfl rfl ?_
  refine xi_aload_n (pc' := 792) (x := 1000000) kc_195_791 rfl rfl ?_
  refine xi_iload (pc' := 794) (x := x4) kc_195_792 rfl rfl ?_
  refine xi_iconst (pc' := 795) (v := 1) kc_195_794 rfl rfl ?_
  obtain ⟨v1, ev1⟩ : ∃ q : Int32, x4 + 1 = q := ⟨_, rfl⟩
  have zv1 : v1.toInt = (x4.toInt + 1) := by rw [← ev1]; exact (xz_add (X := x4.toInt) (Y := 1) rfl (by decide) (by omega) (by omega)).trans (by omega)
  refine xi_iadd (pc' := 796) (v := v1) kc_195_795 rfl ev1 ?_
  obtain ⟨a2, ea2⟩ : ∃ q : Int32, xs.getD (Int32.toNatClampNeg v1) 0 = q := ⟨_, rfl⟩
  have ra2 := xc_rng a2
  refine xi_ialoadO (pc' := 797) (v := a2) kc_195_796 rfl (by decide) hov0 (xi_in (by omega) (by omega)) ea2 ?_
  refine xi_aload_n (pc' := 798) (x := 167) kc_195_797 rfl rfl ?_
  obtain ⟨r9, h9, j9, T9, f9, l9, z9⟩ := hoff a2 h T hn
  refine xi_staticJ (mj := 194) (as := [.ref 0, .int a2, .ref 167]) (st1 := []) (r := some (.int r9)) (h' := h9) kc_195_798 rfl rfl (Nat.le_of_ble_eq_true rfl) rfl rfl (Nat.le_of_ble_eq_true rfl) j9 ?_
  have K9 : xk [(6, 0), (123, 0), (9, 0), (124, 0)] h9 h9 := xk_re T9
  have rr9 := xc_rng r9
  show xw J ov 100 195 (801, [(4, .int x4), (3, .ref 167), (2, .ref 115), (1, .ref 0), (0, .ref 1000000)], [.int r9], h9) _
  refine xi_istore (pc' := 803) (lv' := [(5, .int r9), (4, .int x4), (3, .ref 167), (2, .ref 115), (1, .ref 0), (0, .ref 1000000)]) kc_195_801 rfl rfl (xm_lt ml_195 rfl) ?_
  refine xi_aload_n (pc' := 804) (x := 115) kc_195_803 rfl rfl ?_
  refine xi_aload_n (pc' := 805) (x := 1000000) kc_195_804 rfl rfl ?_
  refine xi_iload (pc' := 807) (x := x4) kc_195_805 rfl rfl ?_
  refine xi_iconst (pc' := 808) (v := 1) kc_195_807 rfl rfl ?_
  refine xi_iadd (pc' := 809) (v := v1) kc_195_808 rfl ev1 ?_
  refine xi_ialoadO (pc' := 810) (v := a2) kc_195_809 rfl (by decide) hov0 (xi_in (by omega) (by omega)) ea2 ?_
  obtain ⟨u101, u102, u103, u104, u105, u106, u107, u108, u109, u110, u111, u112, u113, bu101, bu102, bu103, bu104, bu105, bu106, bu107, bu108, bu109, bu110, bu111, bu112, bu113, A114⟩ := xq_115 K9.1
  refine xi_virtual (mj := 41) (as := [.int a2]) (st1 := []) (lv0 := [(0, .ref 115), (1, .int a2)]) kc_195_810 rfl rfl rfl rfl rfl A114 (Nat.le_of_ble_eq_true rfl) (hJ _ _ _ _ (by decide)) (xm_le ml_41 rfl) rfl ?_
  refine mt_41_0 hJ hov1 hov2 (d := 92) (x1 := a2) K9.1 (fun r115 hh116 K117 => ?_)
  have K118 := xk_tr K9 K117 rfl
  obtain ⟨u119, u120, u121, u122, u123, u124, u125, u126, u127, u128, u129, u130, u131, bu119, bu120, bu121, bu122, bu123, bu124, bu125, bu126, bu127, bu128, bu129, bu130, bu131, A132⟩ := xq_115 K118.1
  have e133 : u102 = u120 := xk_eqi (q := 1) K117 rfl A114 A132 rfl rfl
  subst e133
  show xw J ov 100 195 (813, [(5, .int r9), (4, .int x4), (3, .ref 167), (2, .ref 115), (1, .ref 0), (0, .ref 1000000)], [.long r115], hh116) _
  refine xi_lstore (pc' := 815) (lv' := [(6, .long r115), (5, .int r9), (4, .int x4), (3, .ref 167), (2, .ref 115), (1, .ref 0), (0, .ref 1000000)]) kc_195_813 rfl rfl (xm_lt ml_195 rfl) ?_
  refine xi_goto (pc' := 1501) kc_195_815 rfl ?_
  obtain ⟨v134, ev134⟩ : ∃ q : Int32, x4 + 6 = q := ⟨_, rfl⟩
  have zv134 : v134.toInt = (x4.toInt + 6) := by rw [← ev134]; exact (xz_add (X := x4.toInt) (Y := 6) rfl (by decide) (by omega) (by omega)).trans (by omega)
  refine xi_iinc (pc' := 1504) (x := x4) (v := v134) (lv' := [(4, .int v134), (6, .long r115), (5, .int r9), (3, .ref 167), (2, .ref 115), (1, .ref 0), (0, .ref 1000000)]) kc_195_1501 rfl rfl ev134 rfl (xm_lt ml_195 rfl) ?_
  refine xi_goto (pc' := 23) kc_195_1504 rfl ?_
  refine xw_lv (b := [(4, .int v134), (3, .ref 167), (2, .ref 115), (1, .ref 0), (0, .ref 1000000)]) (lvS_cons (lvS_cons (lvS_cons (lvS_cons (lvS_cons (lvS_nil (show ([4, 6, 5, 3, 2, 1, 0] : List Nat).Nodup by decide)) rfl) rfl) rfl) rfl) rfl) ?_
  exact kk v134 hh116 (by omega) K118.1 (fun l hl => (K118.2.1 l hl).trans (f9 l hl)) (by rw [K118.2.2.1]; exact l9) (by rw [K118.2.2.2]; exact z9)
set_option maxHeartbeats 8000000 in
theorem lc_15 {J : xe_J} {ov : List (List Int32)} (hJ : ∀ d mj as h, mj ≠ xe_loff → J d mj as h = none) (hov1 : ov[1]? = some [10, 0, 0, 0, 0, 0]) (hov2 : ov[2]? = some [99, 30, 50, 50, 1, 99999]) {xs : List Int32} (hov0 : ov[0]? = some xs) {Q : Option Value → xe_H → Prop} {h : xe_H} {x4 : Int32} (hi0 : 0 ≤ x4.toInt) (hi1 : x4.toInt + 6 ≤ xs.length) (hi2 : x4.toInt ≤ 3066) (T : xt h) (kk : ∀ (i : Int32) (h' : xe_H), i.toInt = x4.toInt + 6 → xk [(6, 0), (123, 0), (9, 0), (124, 0)] h h' → xw J ov 100 195 (23, [(4, .int i), (3, .ref 167), (2, .ref 115), (1, .ref 0), (0, .ref 1000000)], [], h') Q) : xw J ov 100 195 (818, [(4, .int x4), (3, .ref 167), (2, .ref 115), (1, .ref 0), (0, .ref 1000000)], [], h) Q := by
  have K : xk [(6, 0), (123, 0), (9, 0), (124, 0)] h h := xk_re T
  refine xi_aload_n (pc' := 819) (x := 0) kc_195_818 rfl rfl ?_
  refine xi_aload_n (pc' := 820) (x := 1000000) kc_195_819 rfl rfl ?_
  refine xi_iload (pc' := 822) (x := x4) kc_195_820 rfl rfl ?_
  refine xi_iconst (pc' := 823) (v := 1) kc_195_822 rfl rfl ?_
  obtain ⟨v1, ev1⟩ : ∃ q : Int32, x4 + 1 = q := ⟨_, rfl⟩
  have zv1 : v1.toInt = (x4.toInt + 1) := by rw [← ev1]; exact (xz_add (X := x4.toInt) (Y := 1) rfl (by decide) (by omega) (by omega)).trans (by omega)
  refine xi_iadd (pc' := 824) (v := v1) kc_195_823 rfl ev1 ?_
  obtain ⟨a2, ea2⟩ : ∃ q : Int32, xs.getD (Int32.toNatClampNeg v1) 0 = q := ⟨_, rfl⟩
  have ra2 := xc_rng a2
  refine xi_ialoadO (pc' := 825) (v := a2) kc_195_824 rfl (by decide) hov0 (xi_in (by omega) (by omega)) ea2 ?_
  refine xi_aload_n (pc' := 826) (x := 1000000) kc_195_825 rfl rfl ?_
  refine xi_iload (pc' := 828) (x := x4) kc_195_826 rfl rfl ?_
  refine xi_iconst (pc' := 829) (v := 2) kc_195_828 rfl rfl ?_
  obtain ⟨v3, ev3⟩ : ∃ q : Int32, x4 + 2 = q := ⟨_, rfl⟩
  have zv3 : v3.toInt = (x4.toInt + 2) := by rw [← ev3]; exact (xz_add (X := x4.toInt) (Y := 2) rfl (by decide) (by omega) (by omega)).trans (by omega)
  refine xi_iadd (pc' := 830) (v := v3) kc_195_829 rfl ev3 ?_
  obtain ⟨a4, ea4⟩ : ∃ q : Int32, xs.getD (Int32.toNatClampNeg v3) 0 = q := ⟨_, rfl⟩
  have ra4 := xc_rng a4
  refine xi_ialoadO (pc' := 831) (v := a4) kc_195_830 rfl (by decide) hov0 (xi_in (by omega) (by omega)) ea4 ?_
  obtain ⟨u5, u6, bu5, bu6, A7⟩ := xq_0 K.1
  refine xi_virtual (mj := 137) (as := [.int a2, .int a4]) (st1 := []) (lv0 := [(0, .ref 0), (1, .int a2), (2, .int a4)]) kc_195_831 rfl rfl rfl rfl rfl A7 (Nat.le_of_ble_eq_true rfl) (hJ _ _ _ _ (by decide)) (xm_le ml_137 rfl) rfl ?_
  refine mt_137_0 hJ hov1 hov2 (d := 93) (x1 := a2) (x2 := a4) K.1 (fun r8 hh9 K10 => ?_)
  have br8 := xc_rng r8
  have K11 := xk_tr K K10 rfl
  obtain ⟨u12, u13, bu12, bu13, A14⟩ := xq_0 K11.1
  have e15 : u6 = u13 := xk_eqi (q := 9) K10 rfl A7 A14 rfl rfl
  subst e15
  show xw J ov 100 195 (834, [(4, .int x4), (3, .ref 167), (2, .ref 115), (1, .ref 0), (0, .ref 1000000)], [.int r8], hh9) _
  refine xi_pop (pc' := 835) kc_195_834 rfl rfl ?_
  refine xi_aload_n (pc' := 836) (x := 115) kc_195_835 rfl rfl ?_
  refine xi_aload_n (pc' := 837) (x := 1000000) kc_195_836 rfl rfl ?_
  refine xi_iload (pc' := 839) (x := x4) kc_195_837 rfl rfl ?_
  refine xi_iconst (pc' := 840) (v := 1) kc_195_839 rfl rfl ?_
  refine xi_iadd (pc' := 841) (v := v1) kc_195_840 rfl ev1 ?_
  refine xi_ialoadO (pc' := 842) (v := a2) kc_195_841 rfl (by decide) hov0 (xi_in (by omega) (by omega)) ea2 ?_
  refine xi_aload_n (pc' := 843) (x := 1000000) kc_195_842 rfl rfl ?_
  refine xi_iload (pc' := 845) (x := x4) kc_195_843 rfl rfl ?_
  refine xi_iconst (pc' := 846) (v := 2) kc_195_845 rfl rfl ?_
  refine xi_iadd (pc' := 847) (v := v3) kc_195_846 rfl ev3 ?_
  refine xi_ialoadO (pc' := 848) (v := a4) kc_195_847 rfl (by decide) hov0 (xi_in (by omega) (by omega)) ea4 ?_
  obtain ⟨u16, u17, u18, u19, u20, u21, u22, u23, u24, u25, u26, u27, u28, bu16, bu17, bu18, bu19, bu20, bu21, bu22, bu23, bu24, bu25, bu26, bu27, bu28, A29⟩ := xq_115 K11.1
  refine xi_virtual (mj := 46) (as := [.int a2, .int a4]) (st1 := []) (lv0 := [(0, .ref 115), (1, .int a2), (2, .int a4)]) kc_195_848 rfl rfl rfl rfl rfl A29 (Nat.le_of_ble_eq_true rfl) (hJ _ _ _ _ (by decide)) (xm_le ml_46 rfl) rfl ?_
  refine mt_46_0 hJ hov1 hov2 (d := 93) (x1 := a2) (x2 := a4) K11.1 (fun r30 hh31 K32 => ?_)
  have br30 := xc_rng r30
  have K33 := xk_tr K11 K32 rfl
  obtain ⟨u34, u35, bu34, bu35, A36⟩ := xq_0 K33.1
  have e37 : u6 = u35 := xk_eqi (q := 9) K32 rfl A14 A36 rfl rfl
  subst e37
  obtain ⟨u38, u39, u40, u41, u42, u43, u44, u45, u46, u47, u48, u49, u50, bu38, bu39, bu40, bu41, bu42, bu43, bu44, bu45, bu46, bu47, bu48, bu49, bu50, A51⟩ := xq_115 K33.1
  have e52 : u17 = u39 := xk_eqi (q := 1) K32 rfl A29 A51 rfl rfl
  subst e52
  show xw J ov 100 195 (851, [(4, .int x4), (3, .ref 167), (2, .ref 115), (1, .ref 0), (0, .ref 1000000)], [.int r30], hh31) _
  refine xi_pop (pc' := 852) kc_195_851 rfl rfl ?_
  refine xi_goto (pc' := 1501) kc_195_852 rfl ?_
  obtain ⟨v53, ev53⟩ : ∃ q : Int32, x4 + 6 = q := ⟨_, rfl⟩
  have zv53 : v53.toInt = (x4.toInt + 6) := by rw [← ev53]; exact (xz_add (X := x4.toInt) (Y := 6) rfl (by decide) (by omega) (by omega)).trans (by omega)
  refine xi_iinc (pc' := 1504) (x := x4) (v := v53) (lv' := [(4, .int v53), (3, .ref 167), (2, .ref 115), (1, .ref 0), (0, .ref 1000000)]) kc_195_1501 rfl rfl ev53 rfl (xm_lt ml_195 rfl) ?_
  refine xi_goto (pc' := 23) kc_195_1504 rfl ?_
  exact kk v53 hh31 (by omega) K33
set_option maxHeartbeats 8000000 in
theorem lc_16 {J : xe_J} {ov : List (List Int32)} (hJ : ∀ d mj as h, mj ≠ xe_loff → J d mj as h = none) (hov1 : ov[1]? = some [10, 0, 0, 0, 0, 0]) (hov2 : ov[2]? = some [99, 30, 50, 50, 1, 99999]) {xs : List Int32} (hov0 : ov[0]? = some xs) {Q : Option Value → xe_H → Prop} {h : xe_H} {x4 : Int32} (hi0 : 0 ≤ x4.toInt) (hi1 : x4.toInt + 6 ≤ xs.length) (hi2 : x4.toInt ≤ 3066) (T : xt h) (kk : ∀ (i : Int32) (h' : xe_H), i.toInt = x4.toInt + 6 → xk [(6, 0), (123, 0), (9, 0), (124, 0)] h h' → xw J ov 100 195 (23, [(4, .int i), (3, .ref 167), (2, .ref 115), (1, .ref 0), (0, .ref 1000000)], [], h') Q) : xw J ov 100 195 (855, [(4, .int x4), (3, .ref 167), (2, .ref 115), (1, .ref 0), (0, .ref 1000000)], [], h) Q := by
  have K : xk [(6, 0), (123, 0), (9, 0), (124, 0)] h h := xk_re T
  refine xi_aload_n (pc' := 856) (x := 0) kc_195_855 rfl rfl ?_
  obtain ⟨u1, u2, bu1, bu2, A3⟩ := xq_0 K.1
  refine xi_virtual (mj := 144) (as := []) (st1 := []) (lv0 := [(0, .ref 0)]) kc_195_856 rfl rfl rfl rfl rfl A3 (Nat.le_of_ble_eq_true rfl) (hJ _ _ _ _ (by decide)) (xm_le ml_144 rfl) rfl ?_
  refine mt_144_0 hJ hov1 hov2 (d := 92)  K.1 (fun r4 hh5 br4 K6 => ?_)
  have K7 := xk_tr K K6 rfl
  obtain ⟨u8, u9, bu8, bu9, A10⟩ := xq_0 K7.1
  have e11 : u2 = u9 := xk_eqi (q := 9) K6 rfl A3 A10 rfl rfl
  subst e11
  show xw J ov 100 195 (859, [(4, .int x4), (3, .ref 167), (2, .ref 115), (1, .ref 0), (0, .ref 1000000)], [.int r4], hh5) _
  refine xi_pop (pc' := 860) kc_195_859 rfl rfl ?_
  refine xi_aload_n (pc' := 861) (x := 115) kc_195_860 rfl rfl ?_
  obtain ⟨u12, u13, u14, u15, u16, u17, u18, u19, u20, u21, u22, u23, u24, bu12, bu13, bu14, bu15, bu16, bu17, bu18, bu19, bu20, bu21, bu22, bu23, bu24, A25⟩ := xq_115 K7.1
  refine xi_virtual (mj := 47) (as := []) (st1 := []) (lv0 := [(0, .ref 115)]) kc_195_861 rfl rfl rfl rfl rfl A25 (Nat.le_of_ble_eq_true rfl) (hJ _ _ _ _ (by decide)) (xm_le ml_47 rfl) rfl ?_
  refine mt_47_0 hJ hov1 hov2 (d := 91)  K7.1 (fun r26 hh27 br26 K28 => ?_)
  have K29 := xk_tr K7 K28 rfl
  obtain ⟨u30, u31, bu30, bu31, A32⟩ := xq_0 K29.1
  have e33 : u2 = u31 := xk_eqi (q := 9) K28 rfl A10 A32 rfl rfl
  subst e33
  obtain ⟨u34, u35, u36, u37, u38, u39, u40, u41, u42, u43, u44, u45, u46, bu34, bu35, bu36, bu37, bu38, bu39, bu40, bu41, bu42, bu43, bu44, bu45, bu46, A47⟩ := xq_115 K29.1
  have e48 : u13 = u35 := xk_eqi (q := 1) K28 rfl A25 A47 rfl rfl
  subst e48
  show xw J ov 100 195 (864, [(4, .int x4), (3, .ref 167), (2, .ref 115), (1, .ref 0), (0, .ref 1000000)], [.int r26], hh27) _
  refine xi_pop (pc' := 865) kc_195_864 rfl rfl ?_
  refine xi_goto (pc' := 1501) kc_195_865 rfl ?_
  obtain ⟨v49, ev49⟩ : ∃ q : Int32, x4 + 6 = q := ⟨_, rfl⟩
  have zv49 : v49.toInt = (x4.toInt + 6) := by rw [← ev49]; exact (xz_add (X := x4.toInt) (Y := 6) rfl (by decide) (by omega) (by omega)).trans (by omega)
  refine xi_iinc (pc' := 1504) (x := x4) (v := v49) (lv' := [(4, .int v49), (3, .ref 167), (2, .ref 115), (1, .ref 0), (0, .ref 1000000)]) kc_195_1501 rfl rfl ev49 rfl (xm_lt ml_195 rfl) ?_
  refine xi_goto (pc' := 23) kc_195_1504 rfl ?_
  exact kk v49 hh27 (by omega) K29
set_option maxHeartbeats 8000000 in
theorem lc_17 {J : xe_J} {ov : List (List Int32)} (hJ : ∀ d mj as h, mj ≠ xe_loff → J d mj as h = none) (hov1 : ov[1]? = some [10, 0, 0, 0, 0, 0]) (hov2 : ov[2]? = some [99, 30, 50, 50, 1, 99999]) {xs : List Int32} (hov0 : ov[0]? = some xs) {Q : Option Value → xe_H → Prop} {h : xe_H} {x4 : Int32} (hi0 : 0 ≤ x4.toInt) (hi1 : x4.toInt + 6 ≤ xs.length) (hi2 : x4.toInt ≤ 3066) (T : xt h) (kk : ∀ (i : Int32) (h' : xe_H), i.toInt = x4.toInt + 6 → xk [(6, 0), (123, 0), (9, 0), (124, 0)] h h' → xw J ov 100 195 (23, [(4, .int i), (3, .ref 167), (2, .ref 115), (1, .ref 0), (0, .ref 1000000)], [], h') Q) : xw J ov 100 195 (868, [(4, .int x4), (3, .ref 167), (2, .ref 115), (1, .ref 0), (0, .ref 1000000)], [], h) Q := by
  have K : xk [(6, 0), (123, 0), (9, 0), (124, 0)] h h := xk_re T
  refine xi_aload_n (pc' := 869) (x := 0) kc_195_868 rfl rfl ?_
  refine xi_aload_n (pc' := 870) (x := 1000000) kc_195_869 rfl rfl ?_
  refine xi_iload (pc' := 872) (x := x4) kc_195_870 rfl rfl ?_
  refine xi_iconst (pc' := 873) (v := 1) kc_195_872 rfl rfl ?_
  obtain ⟨v1, ev1⟩ : ∃ q : Int32, x4 + 1 = q := ⟨_, rfl⟩
  have zv1 : v1.toInt = (x4.toInt + 1) := by rw [← ev1]; exact (xz_add (X := x4.toInt) (Y := 1) rfl (by decide) (by omega) (by omega)).trans (by omega)
  refine xi_iadd (pc' := 874) (v := v1) kc_195_873 rfl ev1 ?_
  obtain ⟨a2, ea2⟩ : ∃ q : Int32, xs.getD (Int32.toNatClampNeg v1) 0 = q := ⟨_, rfl⟩
  have ra2 := xc_rng a2
  refine xi_ialoadO (pc' := 875) (v := a2) kc_195_874 rfl (by decide) hov0 (xi_in (by omega) (by omega)) ea2 ?_
  obtain ⟨u3, u4, bu3, bu4, A5⟩ := xq_0 K.1
  refine xi_virtual (mj := 148) (as := [.int a2]) (st1 := []) (lv0 := [(0, .ref 0), (1, .int a2)]) kc_195_875 rfl rfl rfl rfl rfl A5 (Nat.le_of_ble_eq_true rfl) (hJ _ _ _ _ (by decide)) (xm_le ml_148 rfl) rfl ?_
  refine mt_148_0 hJ hov1 hov2 (d := 92) (x1 := a2) K.1 (fun r6 hh7 K8 => ?_)
  have br6 := xc_rng r6
  have K9 := xk_tr K K8 rfl
  obtain ⟨u10, u11, bu10, bu11, A12⟩ := xq_0 K9.1
  have e13 : u4 = u11 := xk_eqi (q := 9) K8 rfl A5 A12 rfl rfl
  subst e13
  show xw J ov 100 195 (878, [(4, .int x4), (3, .ref 167), (2, .ref 115), (1, .ref 0), (0, .ref 1000000)], [.int r6], hh7) _
  refine xi_pop (pc' := 879) kc_195_878 rfl rfl ?_
  refine xi_aload_n (pc' := 880) (x := 115) kc_195_879 rfl rfl ?_
  refine xi_aload_n (pc' := 881) (x := 1000000) kc_195_880 rfl rfl ?_
  refine xi_iload (pc' := 883) (x := x4) kc_195_881 rfl rfl ?_
  refine xi_iconst (pc' := 884) (v := 1) kc_195_883 rfl rfl ?_
  refine xi_iadd (pc' := 885) (v := v1) kc_195_884 rfl ev1 ?_
  refine xi_ialoadO (pc' := 886) (v := a2) kc_195_885 rfl (by decide) hov0 (xi_in (by omega) (by omega)) ea2 ?_
  obtain ⟨u14, u15, u16, u17, u18, u19, u20, u21, u22, u23, u24, u25, u26, bu14, bu15, bu16, bu17, bu18, bu19, bu20, bu21, bu22, bu23, bu24, bu25, bu26, A27⟩ := xq_115 K9.1
  refine xi_virtual (mj := 50) (as := [.int a2]) (st1 := []) (lv0 := [(0, .ref 115), (1, .int a2)]) kc_195_886 rfl rfl rfl rfl rfl A27 (Nat.le_of_ble_eq_true rfl) (hJ _ _ _ _ (by decide)) (xm_le ml_50 rfl) rfl ?_
  refine mt_50_0 hJ hov1 hov2 (d := 92) (x1 := a2) K9.1 (fun r28 hh29 K30 => ?_)
  have br28 := xc_rng r28
  have K31 := xk_tr K9 K30 rfl
  obtain ⟨u32, u33, bu32, bu33, A34⟩ := xq_0 K31.1
  have e35 : u4 = u33 := xk_eqi (q := 9) K30 rfl A12 A34 rfl rfl
  subst e35
  obtain ⟨u36, u37, u38, u39, u40, u41, u42, u43, u44, u45, u46, u47, u48, bu36, bu37, bu38, bu39, bu40, bu41, bu42, bu43, bu44, bu45, bu46, bu47, bu48, A49⟩ := xq_115 K31.1
  have e50 : u15 = u37 := xk_eqi (q := 1) K30 rfl A27 A49 rfl rfl
  subst e50
  show xw J ov 100 195 (889, [(4, .int x4), (3, .ref 167), (2, .ref 115), (1, .ref 0), (0, .ref 1000000)], [.int r28], hh29) _
  refine xi_pop (pc' := 890) kc_195_889 rfl rfl ?_
  refine xi_goto (pc' := 1501) kc_195_890 rfl ?_
  obtain ⟨v51, ev51⟩ : ∃ q : Int32, x4 + 6 = q := ⟨_, rfl⟩
  have zv51 : v51.toInt = (x4.toInt + 6) := by rw [← ev51]; exact (xz_add (X := x4.toInt) (Y := 6) rfl (by decide) (by omega) (by omega)).trans (by omega)
  refine xi_iinc (pc' := 1504) (x := x4) (v := v51) (lv' := [(4, .int v51), (3, .ref 167), (2, .ref 115), (1, .ref 0), (0, .ref 1000000)]) kc_195_1501 rfl rfl ev51 rfl (xm_lt ml_195 rfl) ?_
  refine xi_goto (pc' := 23) kc_195_1504 rfl ?_
  exact kk v51 hh29 (by omega) K31
set_option maxHeartbeats 8000000 in
theorem lc_18 {J : xe_J} {ov : List (List Int32)} (hJ : ∀ d mj as h, mj ≠ xe_loff → J d mj as h = none) (hov1 : ov[1]? = some [10, 0, 0, 0, 0, 0]) (hov2 : ov[2]? = some [99, 30, 50, 50, 1, 99999]) {xs : List Int32} (hov0 : ov[0]? = some xs) {Q : Option Value → xe_H → Prop} {h : xe_H} {x4 : Int32} (hi0 : 0 ≤ x4.toInt) (hi1 : x4.toInt + 6 ≤ xs.length) (hi2 : x4.toInt ≤ 3066) (T : xt h) (kk : ∀ (i : Int32) (h' : xe_H), i.toInt = x4.toInt + 6 → xk [(6, 0), (123, 0), (9, 0), (124, 0)] h h' → xw J ov 100 195 (23, [(4, .int i), (3, .ref 167), (2, .ref 115), (1, .ref 0), (0, .ref 1000000)], [], h') Q) : xw J ov 100 195 (893, [(4, .int x4), (3, .ref 167), (2, .ref 115), (1, .ref 0), (0, .ref 1000000)], [], h) Q := by
  have K : xk [(6, 0), (123, 0), (9, 0), (124, 0)] h h := xk_re T
  refine xi_aload_n (pc' := 894) (x := 0) kc_195_893 rfl rfl ?_
  obtain ⟨u1, u2, bu1, bu2, A3⟩ := xq_0 K.1
  refine xi_virtual (mj := 151) (as := []) (st1 := []) (lv0 := [(0, .ref 0)]) kc_195_894 rfl rfl rfl rfl rfl A3 (Nat.le_of_ble_eq_true rfl) (hJ _ _ _ _ (by decide)) (xm_le ml_151 rfl) rfl ?_
  refine mt_151_0 hJ hov1 hov2 (d := 91)  K.1 (fun r4 hh5 K6 => ?_)
  have br4 := xc_rng r4
  have K7 := xk_tr K K6 rfl
  obtain ⟨u8, u9, bu8, bu9, A10⟩ := xq_0 K7.1
  have e11 : u2 = u9 := xk_eqi (q := 9) K6 rfl A3 A10 rfl rfl
  subst e11
  show xw J ov 100 195 (897, [(4, .int x4), (3, .ref 167), (2, .ref 115), (1, .ref 0), (0, .ref 1000000)], [.int r4], hh5) _
  refine xi_pop (pc' := 898) kc_195_897 rfl rfl ?_
  refine xi_aload_n (pc' := 899) (x := 115) kc_195_898 rfl rfl ?_
  obtain ⟨u12, u13, u14, u15, u16, u17, u18, u19, u20, u21, u22, u23, u24, bu12, bu13, bu14, bu15, bu16, bu17, bu18, bu19, bu20, bu21, bu22, bu23, bu24, A25⟩ := xq_115 K7.1
  refine xi_virtual (mj := 51) (as := []) (st1 := []) (lv0 := [(0, .ref 115)]) kc_195_899 rfl rfl rfl rfl rfl A25 (Nat.le_of_ble_eq_true rfl) (hJ _ _ _ _ (by decide)) (xm_le ml_51 rfl) rfl ?_
  refine mt_51_0 hJ hov1 hov2 (d := 91)  K7.1 (fun r26 hh27 K28 => ?_)
  have br26 := xc_rng r26
  have K29 := xk_tr K7 K28 rfl
  obtain ⟨u30, u31, bu30, bu31, A32⟩ := xq_0 K29.1
  have e33 : u2 = u31 := xk_eqi (q := 9) K28 rfl A10 A32 rfl rfl
  subst e33
  obtain ⟨u34, u35, u36, u37, u38, u39, u40, u41, u42, u43, u44, u45, u46, bu34, bu35, bu36, bu37, bu38, bu39, bu40, bu41, bu42, bu43, bu44, bu45, bu46, A47⟩ := xq_115 K29.1
  have e48 : u13 = u35 := xk_eqi (q := 1) K28 rfl A25 A47 rfl rfl
  subst e48
  show xw J ov 100 195 (902, [(4, .int x4), (3, .ref 167), (2, .ref 115), (1, .ref 0), (0, .ref 1000000)], [.int r26], hh27) _
  refine xi_pop (pc' := 903) kc_195_902 rfl rfl ?_
  refine xi_goto (pc' := 1501) kc_195_903 rfl ?_
  obtain ⟨v49, ev49⟩ : ∃ q : Int32, x4 + 6 = q := ⟨_, rfl⟩
  have zv49 : v49.toInt = (x4.toInt + 6) := by rw [← ev49]; exact (xz_add (X := x4.toInt) (Y := 6) rfl (by decide) (by omega) (by omega)).trans (by omega)
  refine xi_iinc (pc' := 1504) (x := x4) (v := v49) (lv' := [(4, .int v49), (3, .ref 167), (2, .ref 115), (1, .ref 0), (0, .ref 1000000)]) kc_195_1501 rfl rfl ev49 rfl (xm_lt ml_195 rfl) ?_
  refine xi_goto (pc' := 23) kc_195_1504 rfl ?_
  exact kk v49 hh27 (by omega) K29
set_option maxHeartbeats 8000000 in
theorem lc_19 {J : xe_J} {ov : List (List Int32)} (hJ : ∀ d mj as h, mj ≠ xe_loff → J d mj as h = none) (hov1 : ov[1]? = some [10, 0, 0, 0, 0, 0]) (hov2 : ov[2]? = some [99, 30, 50, 50, 1, 99999]) {xs : List Int32} (hov0 : ov[0]? = some xs) {Q : Option Value → xe_H → Prop} {h : xe_H} {x4 : Int32} (hi0 : 0 ≤ x4.toInt) (hi1 : x4.toInt + 6 ≤ xs.length) (hi2 : x4.toInt ≤ 3066) (T : xt h) (kk : ∀ (i : Int32) (h' : xe_H), i.toInt = x4.toInt + 6 → xk [(6, 0), (123, 0), (9, 0), (124, 0)] h h' → xw J ov 100 195 (23, [(4, .int i), (3, .ref 167), (2, .ref 115), (1, .ref 0), (0, .ref 1000000)], [], h') Q) : xw J ov 100 195 (906, [(4, .int x4), (3, .ref 167), (2, .ref 115), (1, .ref 0), (0, .ref 1000000)], [], h) Q := by
  have K : xk [(6, 0), (123, 0), (9, 0), (124, 0)] h h := xk_re T
  refine xi_aload_n (pc' := 907) (x := 0) kc_195_906 rfl rfl ?_
  refine xi_aload_n (pc' := 908) (x := 1000000) kc_195_907 rfl rfl ?_
  refine xi_iload (pc' := 910) (x := x4) kc_195_908 rfl rfl ?_
  refine xi_iconst (pc' := 911) (v := 1) kc_195_910 rfl rfl ?_
  obtain ⟨v1, ev1⟩ : ∃ q : Int32, x4 + 1 = q := ⟨_, rfl⟩
  have zv1 : v1.toInt = (x4.toInt + 1) := by rw [← ev1]; exact (xz_add (X := x4.toInt) (Y := 1) rfl (by decide) (by omega) (by omega)).trans (by omega)
  refine xi_iadd (pc' := 912) (v := v1) kc_195_911 rfl ev1 ?_
  obtain ⟨a2, ea2⟩ : ∃ q : Int32, xs.getD (Int32.toNatClampNeg v1) 0 = q := ⟨_, rfl⟩
  have ra2 := xc_rng a2
  refine xi_ialoadO (pc' := 913) (v := a2) kc_195_912 rfl (by decide) hov0 (xi_in (by omega) (by omega)) ea2 ?_
  refine xi_aload_n (pc' := 914) (x := 1000000) kc_195_913 rfl rfl ?_
  refine xi_iload (pc' := 916) (x := x4) kc_195_914 rfl rfl ?_
  refine xi_iconst (pc' := 917) (v := 2) kc_195_916 rfl rfl ?_
  obtain ⟨v3, ev3⟩ : ∃ q : Int32, x4 + 2 = q := ⟨_, rfl⟩
  have zv3 : v3.toInt = (x4.toInt + 2) := by rw [← ev3]; exact (xz_add (X := x4.toInt) (Y := 2) rfl (by decide) (by omega) (by omega)).trans (by omega)
  refine xi_iadd (pc' := 918) (v := v3) kc_195_917 rfl ev3 ?_
  obtain ⟨a4, ea4⟩ : ∃ q : Int32, xs.getD (Int32.toNatClampNeg v3) 0 = q := ⟨_, rfl⟩
  have ra4 := xc_rng a4
  refine xi_ialoadO (pc' := 919) (v := a4) kc_195_918 rfl (by decide) hov0 (xi_in (by omega) (by omega)) ea4 ?_
  obtain ⟨u5, u6, bu5, bu6, A7⟩ := xq_0 K.1
  refine xi_virtual (mj := 155) (as := [.int a2, .int a4]) (st1 := []) (lv0 := [(0, .ref 0), (1, .int a2), (2, .int a4)]) kc_195_919 rfl rfl rfl rfl rfl A7 (Nat.le_of_ble_eq_true rfl) (hJ _ _ _ _ (by decide)) (xm_le ml_155 rfl) rfl ?_
  refine mt_155_0 hJ hov1 hov2 (d := 97) (x1 := a2) (x2 := a4) K.1 (fun r8 hh9 br8 K10 => ?_)
  have K11 := xk_tr K K10 rfl
  obtain ⟨u12, u13, bu12, bu13, A14⟩ := xq_0 K11.1
  have e15 : u6 = u13 := xk_eqi (q := 9) K10 rfl A7 A14 rfl rfl
  subst e15
  show xw J ov 100 195 (922, [(4, .int x4), (3, .ref 167), (2, .ref 115), (1, .ref 0), (0, .ref 1000000)], [.int r8], hh9) _
  refine xi_pop (pc' := 923) kc_195_922 rfl rfl ?_
  refine xi_aload_n (pc' := 924) (x := 115) kc_195_923 rfl rfl ?_
  refine xi_aload_n (pc' := 925) (x := 1000000) kc_195_924 rfl rfl ?_
  refine xi_iload (pc' := 927) (x := x4) kc_195_925 rfl rfl ?_
  refine xi_iconst (pc' := 928) (v := 1) kc_195_927 rfl rfl ?_
  refine xi_iadd (pc' := 929) (v := v1) kc_195_928 rfl ev1 ?_
  refine xi_ialoadO (pc' := 930) (v := a2) kc_195_929 rfl (by decide) hov0 (xi_in (by omega) (by omega)) ea2 ?_
  refine xi_aload_n (pc' := 931) (x := 1000000) kc_195_930 rfl rfl ?_
  refine xi_iload (pc' := 933) (x := x4) kc_195_931 rfl rfl ?_
  refine xi_iconst (pc' := 934) (v := 2) kc_195_933 rfl rfl ?_
  refine xi_iadd (pc' := 935) (v := v3) kc_195_934 rfl ev3 ?_
  refine xi_ialoadO (pc' := 936) (v := a4) kc_195_935 rfl (by decide) hov0 (xi_in (by omega) (by omega)) ea4 ?_
  obtain ⟨u16, u17, u18, u19, u20, u21, u22, u23, u24, u25, u26, u27, u28, bu16, bu17, bu18, bu19, bu20, bu21, bu22, bu23, bu24, bu25, bu26, bu27, bu28, A29⟩ := xq_115 K11.1
  refine xi_virtual (mj := 55) (as := [.int a2, .int a4]) (st1 := []) (lv0 := [(0, .ref 115), (1, .int a2), (2, .int a4)]) kc_195_936 rfl rfl rfl rfl rfl A29 (Nat.le_of_ble_eq_true rfl) (hJ _ _ _ _ (by decide)) (xm_le ml_55 rfl) rfl ?_
  refine mt_55_0 hJ hov1 hov2 (d := 98) (x1 := a2) (x2 := a4) K11.1 (fun r30 hh31 br30 K32 => ?_)
  have K33 := xk_tr K11 K32 rfl
  obtain ⟨u34, u35, bu34, bu35, A36⟩ := xq_0 K33.1
  have e37 : u6 = u35 := xk_eqi (q := 9) K32 rfl A14 A36 rfl rfl
  subst e37
  obtain ⟨u38, u39, u40, u41, u42, u43, u44, u45, u46, u47, u48, u49, u50, bu38, bu39, bu40, bu41, bu42, bu43, bu44, bu45, bu46, bu47, bu48, bu49, bu50, A51⟩ := xq_115 K33.1
  have e52 : u17 = u39 := xk_eqi (q := 1) K32 rfl A29 A51 rfl rfl
  subst e52
  show xw J ov 100 195 (939, [(4, .int x4), (3, .ref 167), (2, .ref 115), (1, .ref 0), (0, .ref 1000000)], [.int r30], hh31) _
  refine xi_pop (pc' := 940) kc_195_939 rfl rfl ?_
  refine xi_goto (pc' := 1501) kc_195_940 rfl ?_
  obtain ⟨v53, ev53⟩ : ∃ q : Int32, x4 + 6 = q := ⟨_, rfl⟩
  have zv53 : v53.toInt = (x4.toInt + 6) := by rw [← ev53]; exact (xz_add (X := x4.toInt) (Y := 6) rfl (by decide) (by omega) (by omega)).trans (by omega)
  refine xi_iinc (pc' := 1504) (x := x4) (v := v53) (lv' := [(4, .int v53), (3, .ref 167), (2, .ref 115), (1, .ref 0), (0, .ref 1000000)]) kc_195_1501 rfl rfl ev53 rfl (xm_lt ml_195 rfl) ?_
  refine xi_goto (pc' := 23) kc_195_1504 rfl ?_
  exact kk v53 hh31 (by omega) K33
set_option maxHeartbeats 8000000 in
theorem lc_20 {J : xe_J} {ov : List (List Int32)} (hJ : ∀ d mj as h, mj ≠ xe_loff → J d mj as h = none) (hov1 : ov[1]? = some [10, 0, 0, 0, 0, 0]) (hov2 : ov[2]? = some [99, 30, 50, 50, 1, 99999]) {xs : List Int32} (hov0 : ov[0]? = some xs) {Q : Option Value → xe_H → Prop} {h : xe_H} {x4 : Int32} (hi0 : 0 ≤ x4.toInt) (hi1 : x4.toInt + 6 ≤ xs.length) (hi2 : x4.toInt ≤ 3066) (T : xt h) (kk : ∀ (i : Int32) (h' : xe_H), i.toInt = x4.toInt + 6 → xk [(6, 0), (123, 0), (9, 0), (124, 0)] h h' → xw J ov 100 195 (23, [(4, .int i), (3, .ref 167), (2, .ref 115), (1, .ref 0), (0, .ref 1000000)], [], h') Q) : xw J ov 100 195 (943, [(4, .int x4), (3, .ref 167), (2, .ref 115), (1, .ref 0), (0, .ref 1000000)], [], h) Q := by
  have K : xk [(6, 0), (123, 0), (9, 0), (124, 0)] h h := xk_re T
  refine xi_aload_n (pc' := 944) (x := 0) kc_195_943 rfl rfl ?_
  refine xi_aload_n (pc' := 945) (x := 1000000) kc_195_944 rfl rfl ?_
  refine xi_iload (pc' := 947) (x := x4) kc_195_945 rfl rfl ?_
  refine xi_iconst (pc' := 948) (v := 1) kc_195_947 rfl rfl ?_
  obtain ⟨v1, ev1⟩ : ∃ q : Int32, x4 + 1 = q := ⟨_, rfl⟩
  have zv1 : v1.toInt = (x4.toInt + 1) := by rw [← ev1]; exact (xz_add (X := x4.toInt) (Y := 1) rfl (by decide) (by omega) (by omega)).trans (by omega)
  refine xi_iadd (pc' := 949) (v := v1) kc_195_948 rfl ev1 ?_
  obtain ⟨a2, ea2⟩ : ∃ q : Int32, xs.getD (Int32.toNatClampNeg v1) 0 = q := ⟨_, rfl⟩
  have ra2 := xc_rng a2
  refine xi_ialoadO (pc' := 950) (v := a2) kc_195_949 rfl (by decide) hov0 (xi_in (by omega) (by omega)) ea2 ?_
  refine xi_aload_n (pc' := 951) (x := 1000000) kc_195_950 rfl rfl ?_
  refine xi_iload (pc' := 953) (x := x4) kc_195_951 rfl rfl ?_
  refine xi_iconst (pc' := 954) (v := 2) kc_195_953 rfl rfl ?_
  obtain ⟨v3, ev3⟩ : ∃ q : Int32, x4 + 2 = q := ⟨_, rfl⟩
  have zv3 : v3.toInt = (x4.toInt + 2) := by rw [← ev3]; exact (xz_add (X := x4.toInt) (Y := 2) rfl (by decide) (by omega) (by omega)).trans (by omega)
  refine xi_iadd (pc' := 955) (v := v3) kc_195_954 rfl ev3 ?_
  obtain ⟨a4, ea4⟩ : ∃ q : Int32, xs.getD (Int32.toNatClampNeg v3) 0 = q := ⟨_, rfl⟩
  have ra4 := xc_rng a4
  refine xi_ialoadO (pc' := 956) (v := a4) kc_195_955 rfl (by decide) hov0 (xi_in (by omega) (by omega)) ea4 ?_
  by_cases c5 : a4.toInt = 0
  · refine xi_ift (pc' := 963) kc_195_956 rfl (xc_eq_t (X := a4.toInt) (Y := 0) rfl (by decide) (by omega)) ?_
    refine xi_iconst (pc' := 964) (v := 0) kc_195_963 rfl rfl ?_
    obtain ⟨u6, u7, bu6, bu7, A8⟩ := xq_0 K.1
    refine xi_virtual (mj := 157) (as := [.int a2, .int 0]) (st1 := []) (lv0 := [(0, .ref 0), (1, .int a2), (2, .int 0)]) kc_195_964 rfl rfl rfl rfl rfl A8 (Nat.le_of_ble_eq_true rfl) (hJ _ _ _ _ (by decide)) (xm_le ml_157 rfl) rfl ?_
    have zc0 : (0 : Int32).toInt = 0 := by decide
    refine mt_157_0 hJ hov1 hov2 (d := 91) (x1 := a2) (x2 := 0) K.1 (by first | omega | decide) (fun r9 hh10 K11 => ?_)
    have br9 := xc_rng r9
    have K12 := xk_tr K K11 rfl
    obtain ⟨u13, u14, bu13, bu14, A15⟩ := xq_0 K12.1
    have e16 : u7 = u14 := xk_eqi (q := 9) K11 rfl A8 A15 rfl rfl
    subst e16
    show xw J ov 100 195 (967, [(4, .int x4), (3, .ref 167), (2, .ref 115), (1, .ref 0), (0, .ref 1000000)], [.int r9], hh10) _
    refine xi_pop (pc' := 968) kc_195_967 rfl rfl ?_
    refine xi_aload_n (pc' := 969) (x := 115) kc_195_968 rfl rfl ?_
    refine xi_aload_n (pc' := 970) (x := 1000000) kc_195_969 rfl rfl ?_
    refine xi_iload (pc' := 972) (x := x4) kc_195_970 rfl rfl ?_
    refine xi_iconst (pc' := 973) (v := 1) kc_195_972 rfl rfl ?_
    refine xi_iadd (pc' := 974) (v := v1) kc_195_973 rfl ev1 ?_
    refine xi_ialoadO (pc' := 975) (v := a2) kc_195_974 rfl (by decide) hov0 (xi_in (by omega) (by omega)) ea2 ?_
    refine xi_aload_n (pc' := 976) (x := 1000000) kc_195_975 rfl rfl ?_
    refine xi_iload (pc' := 978) (x := x4) kc_195_976 rfl rfl ?_
    refine xi_iconst (pc' := 979) (v := 2) kc_195_978 rfl rfl ?_
    refine xi_iadd (pc' := 980) (v := v3) kc_195_979 rfl ev3 ?_
    refine xi_ialoadO (pc' := 981) (v := a4) kc_195_980 rfl (by decide) hov0 (xi_in (by omega) (by omega)) ea4 ?_
    refine xi_ift (pc' := 988) kc_195_981 rfl (xc_eq_t (X := a4.toInt) (Y := 0) rfl (by decide) (by omega)) ?_
    refine xi_iconst (pc' := 989) (v := 0) kc_195_988 rfl rfl ?_
    obtain ⟨u17, u18, u19, u20, u21, u22, u23, u24, u25, u26, u27, u28, u29, bu17, bu18, bu19, bu20, bu21, bu22, bu23, bu24, bu25, bu26, bu27, bu28, bu29, A30⟩ := xq_115 K12.1
    refine xi_virtual (mj := 56) (as := [.int a2, .int 0]) (st1 := []) (lv0 := [(0, .ref 115), (1, .int a2), (2, .int 0)]) kc_195_989 rfl rfl rfl rfl rfl A30 (Nat.le_of_ble_eq_true rfl) (hJ _ _ _ _ (by decide)) (xm_le ml_56 rfl) rfl ?_
    have zc0 : (0 : Int32).toInt = 0 := by decide
    refine mt_56_0 hJ hov1 hov2 (d := 91) (x1 := a2) (x2 := 0) K12.1 (by first | omega | decide) (fun r31 hh32 K33 => ?_)
    have br31 := xc_rng r31
    have K34 := xk_tr K12 K33 rfl
    obtain ⟨u35, u36, bu35, bu36, A37⟩ := xq_0 K34.1
    have e38 : u7 = u36 := xk_eqi (q := 9) K33 rfl A15 A37 rfl rfl
    subst e38
    obtain ⟨u39, u40, u41, u42, u43, u44, u45, u46, u47, u48, u49, u50, u51, bu39, bu40, bu41, bu42, bu43, bu44, bu45, bu46, bu47, bu48, bu49, bu50, bu51, A52⟩ := xq_115 K34.1
    have e53 : u18 = u40 := xk_eqi (q := 1) K33 rfl A30 A52 rfl rfl
    subst e53
    show xw J ov 100 195 (992, [(4, .int x4), (3, .ref 167), (2, .ref 115), (1, .ref 0), (0, .ref 1000000)], [.int r31], hh32) _
    refine xi_pop (pc' := 993) kc_195_992 rfl rfl ?_
    refine xi_goto (pc' := 1501) kc_195_993 rfl ?_
    obtain ⟨v54, ev54⟩ : ∃ q : Int32, x4 + 6 = q := ⟨_, rfl⟩
    have zv54 : v54.toInt = (x4.toInt + 6) := by rw [← ev54]; exact (xz_add (X := x4.toInt) (Y := 6) rfl (by decide) (by omega) (by omega)).trans (by omega)
    refine xi_iinc (pc' := 1504) (x := x4) (v := v54) (lv' := [(4, .int v54), (3, .ref 167), (2, .ref 115), (1, .ref 0), (0, .ref 1000000)]) kc_195_1501 rfl rfl ev54 rfl (xm_lt ml_195 rfl) ?_
    refine xi_goto (pc' := 23) kc_195_1504 rfl ?_
    exact kk v54 hh32 (by omega) K34
  · refine xi_iff (pc' := 959) kc_195_956 rfl (xc_eq_f (X := a4.toInt) (Y := 0) rfl (by decide) (by omega)) ?_
    refine xi_iconst (pc' := 960) (v := 1) kc_195_959 rfl rfl ?_
    refine xi_goto (pc' := 964) kc_195_960 rfl ?_
    obtain ⟨u55, u56, bu55, bu56, A57⟩ := xq_0 K.1
    refine xi_virtual (mj := 157) (as := [.int a2, .int 1]) (st1 := []) (lv0 := [(0, .ref 0), (1, .int a2), (2, .int 1)]) kc_195_964 rfl rfl rfl rfl rfl A57 (Nat.le_of_ble_eq_true rfl) (hJ _ _ _ _ (by decide)) (xm_le ml_157 rfl) rfl ?_
    have zc1 : (1 : Int32).toInt = 1 := by decide
    refine mt_157_0 hJ hov1 hov2 (d := 91) (x1 := a2) (x2 := 1) K.1 (by first | omega | decide) (fun r58 hh59 K60 => ?_)
    have br58 := xc_rng r58
    have K61 := xk_tr K K60 rfl
    obtain ⟨u62, u63, bu62, bu63, A64⟩ := xq_0 K61.1
    have e65 : u56 = u63 := xk_eqi (q := 9) K60 rfl A57 A64 rfl rfl
    subst e65
    show xw J ov 100 195 (967, [(4, .int x4), (3, .ref 167), (2, .ref 115), (1, .ref 0), (0, .ref 1000000)], [.int r58], hh59) _
    refine xi_pop (pc' := 968) kc_195_967 rfl rfl ?_
    refine xi_aload_n (pc' := 969) (x := 115) kc_195_968 rfl rfl ?_
    refine xi_aload_n (pc' := 970) (x := 1000000) kc_195_969 rfl rfl ?_
    refine xi_iload (pc' := 972) (x := x4) kc_195_970 rfl rfl ?_
    refine xi_iconst (pc' := 973) (v := 1) kc_195_972 rfl rfl ?_
    refine xi_iadd (pc' := 974) (v := v1) kc_195_973 rfl ev1 ?_
    refine xi_ialoadO (pc' := 975) (v := a2) kc_195_974 rfl (by decide) hov0 (xi_in (by omega) (by omega)) ea2 ?_
    refine xi_aload_n (pc' := 976) (x := 1000000) kc_195_975 rfl rfl ?_
    refine xi_iload (pc' := 978) (x := x4) kc_195_976 rfl rfl ?_
    refine xi_iconst (pc' := 979) (v := 2) kc_195_978 rfl rfl ?_
    refine xi_iadd (pc' := 980) (v := v3) kc_195_979 rfl ev3 ?_
    refine xi_ialoadO (pc' := 981) (v := a4) kc_195_980 rfl (by decide) hov0 (xi_in (by omega) (by omega)) ea4 ?_
    refine xi_iff (pc' := 984) kc_195_981 rfl (xc_eq_f (X := a4.toInt) (Y := 0) rfl (by decide) (by omega)) ?_
    refine xi_iconst (pc' := 985) (v := 1) kc_195_984 rfl rfl ?_
    refine xi_goto (pc' := 989) kc_195_985 rfl ?_
    obtain ⟨u66, u67, u68, u69, u70, u71, u72, u73, u74, u75, u76, u77, u78, bu66, bu67, bu68, bu69, bu70, bu71, bu72, bu73, bu74, bu75, bu76, bu77, bu78, A79⟩ := xq_115 K61.1
    refine xi_virtual (mj := 56) (as := [.int a2, .int 1]) (st1 := []) (lv0 := [(0, .ref 115), (1, .int a2), (2, .int 1)]) kc_195_989 rfl rfl rfl rfl rfl A79 (Nat.le_of_ble_eq_true rfl) (hJ _ _ _ _ (by decide)) (xm_le ml_56 rfl) rfl ?_
    have zc1 : (1 : Int32).toInt = 1 := by decide
    refine mt_56_0 hJ hov1 hov2 (d := 91) (x1 := a2) (x2 := 1) K61.1 (by first | omega | decide) (fun r80 hh81 K82 => ?_)
    have br80 := xc_rng r80
    have K83 := xk_tr K61 K82 rfl
    obtain ⟨u84, u85, bu84, bu85, A86⟩ := xq_0 K83.1
    have e87 : u56 = u85 := xk_eqi (q := 9) K82 rfl A64 A86 rfl rfl
    subst e87
    obtain ⟨u88, u89, u90, u91, u92, u93, u94, u95, u96, u97, u98, u99, u100, bu88, bu89, bu90, bu91, bu92, bu93, bu94, bu95, bu96, bu97, bu98, bu99, bu100, A101⟩ := xq_115 K83.1
    have e102 : u67 = u89 := xk_eqi (q := 1) K82 rfl A79 A101 rfl rfl
    subst e102
    show xw J ov 100 195 (992, [(4, .int x4), (3, .ref 167), (2, .ref 115), (1, .ref 0), (0, .ref 1000000)], [.int r80], hh81) _
    refine xi_pop (pc' := 993) kc_195_992 rfl rfl ?_
    refine xi_goto (pc' := 1501) kc_195_993 rfl ?_
    obtain ⟨v103, ev103⟩ : ∃ q : Int32, x4 + 6 = q := ⟨_, rfl⟩
    have zv103 : v103.toInt = (x4.toInt + 6) := by rw [← ev103]; exact (xz_add (X := x4.toInt) (Y := 6) rfl (by decide) (by omega) (by omega)).trans (by omega)
    refine xi_iinc (pc' := 1504) (x := x4) (v := v103) (lv' := [(4, .int v103), (3, .ref 167), (2, .ref 115), (1, .ref 0), (0, .ref 1000000)]) kc_195_1501 rfl rfl ev103 rfl (xm_lt ml_195 rfl) ?_
    refine xi_goto (pc' := 23) kc_195_1504 rfl ?_
    exact kk v103 hh81 (by omega) K83
set_option maxHeartbeats 8000000 in
theorem lc_21 {J : xe_J} {ov : List (List Int32)} (hJ : ∀ d mj as h, mj ≠ xe_loff → J d mj as h = none) (hov1 : ov[1]? = some [10, 0, 0, 0, 0, 0]) (hov2 : ov[2]? = some [99, 30, 50, 50, 1, 99999]) {xs : List Int32} (hov0 : ov[0]? = some xs) {Q : Option Value → xe_H → Prop} {h : xe_H} {x4 : Int32} (hi0 : 0 ≤ x4.toInt) (hi1 : x4.toInt + 6 ≤ xs.length) (hi2 : x4.toInt ≤ 3066) (T : xt h) (kk : ∀ (i : Int32) (h' : xe_H), i.toInt = x4.toInt + 6 → xk [(6, 0), (123, 0), (9, 0), (124, 0)] h h' → xw J ov 100 195 (23, [(4, .int i), (3, .ref 167), (2, .ref 115), (1, .ref 0), (0, .ref 1000000)], [], h') Q) : xw J ov 100 195 (996, [(4, .int x4), (3, .ref 167), (2, .ref 115), (1, .ref 0), (0, .ref 1000000)], [], h) Q := by
  have K : xk [(6, 0), (123, 0), (9, 0), (124, 0)] h h := xk_re T
  refine xi_aload_n (pc' := 997) (x := 0) kc_195_996 rfl rfl ?_
  obtain ⟨u1, u2, bu1, bu2, A3⟩ := xq_0 K.1
  refine xi_virtual (mj := 158) (as := []) (st1 := []) (lv0 := [(0, .ref 0)]) kc_195_997 rfl rfl rfl rfl rfl A3 (Nat.le_of_ble_eq_true rfl) (hJ _ _ _ _ (by decide)) (xm_le ml_158 rfl) rfl ?_
  refine mt_158_0 hJ hov1 hov2 (d := 91)  K.1 (fun r4 hh5 br4 K6 => ?_)
  have K7 := xk_tr K K6 rfl
  obtain ⟨u8, u9, bu8, bu9, A10⟩ := xq_0 K7.1
  have e11 : u2 = u9 := xk_eqi (q := 9) K6 rfl A3 A10 rfl rfl
  subst e11
  show xw J ov 100 195 (1000, [(4, .int x4), (3, .ref 167), (2, .ref 115), (1, .ref 0), (0, .ref 1000000)], [.int r4], hh5) _
  refine xi_pop (pc' := 1001) kc_195_1000 rfl rfl ?_
  refine xi_aload_n (pc' := 1002) (x := 115) kc_195_1001 rfl rfl ?_
  obtain ⟨u12, u13, u14, u15, u16, u17, u18, u19, u20, u21, u22, u23, u24, bu12, bu13, bu14, bu15, bu16, bu17, bu18, bu19, bu20, bu21, bu22, bu23, bu24, A25⟩ := xq_115 K7.1
  refine xi_virtual (mj := 57) (as := []) (st1 := []) (lv0 := [(0, .ref 115)]) kc_195_1002 rfl rfl rfl rfl rfl A25 (Nat.le_of_ble_eq_true rfl) (hJ _ _ _ _ (by decide)) (xm_le ml_57 rfl) rfl ?_
  refine mt_57_0 hJ hov1 hov2 (d := 91)  K7.1 (fun r26 hh27 br26 K28 => ?_)
  have K29 := xk_tr K7 K28 rfl
  obtain ⟨u30, u31, bu30, bu31, A32⟩ := xq_0 K29.1
  have e33 : u2 = u31 := xk_eqi (q := 9) K28 rfl A10 A32 rfl rfl
  subst e33
  obtain ⟨u34, u35, u36, u37, u38, u39, u40, u41, u42, u43, u44, u45, u46, bu34, bu35, bu36, bu37, bu38, bu39, bu40, bu41, bu42, bu43, bu44, bu45, bu46, A47⟩ := xq_115 K29.1
  have e48 : u13 = u35 := xk_eqi (q := 1) K28 rfl A25 A47 rfl rfl
  subst e48
  show xw J ov 100 195 (1005, [(4, .int x4), (3, .ref 167), (2, .ref 115), (1, .ref 0), (0, .ref 1000000)], [.int r26], hh27) _
  refine xi_pop (pc' := 1006) kc_195_1005 rfl rfl ?_
  refine xi_goto (pc' := 1501) kc_195_1006 rfl ?_
  obtain ⟨v49, ev49⟩ : ∃ q : Int32, x4 + 6 = q := ⟨_, rfl⟩
  have zv49 : v49.toInt = (x4.toInt + 6) := by rw [← ev49]; exact (xz_add (X := x4.toInt) (Y := 6) rfl (by decide) (by omega) (by omega)).trans (by omega)
  refine xi_iinc (pc' := 1504) (x := x4) (v := v49) (lv' := [(4, .int v49), (3, .ref 167), (2, .ref 115), (1, .ref 0), (0, .ref 1000000)]) kc_195_1501 rfl rfl ev49 rfl (xm_lt ml_195 rfl) ?_
  refine xi_goto (pc' := 23) kc_195_1504 rfl ?_
  exact kk v49 hh27 (by omega) K29
set_option maxHeartbeats 8000000 in
theorem lc_22 {J : xe_J} {ov : List (List Int32)} (hJ : ∀ d mj as h, mj ≠ xe_loff → J d mj as h = none) (hov1 : ov[1]? = some [10, 0, 0, 0, 0, 0]) (hov2 : ov[2]? = some [99, 30, 50, 50, 1, 99999]) {xs : List Int32} (hov0 : ov[0]? = some xs) {Q : Option Value → xe_H → Prop} {h : xe_H} {x4 : Int32} (hi0 : 0 ≤ x4.toInt) (hi1 : x4.toInt + 6 ≤ xs.length) (hi2 : x4.toInt ≤ 3066) (T : xt h) (kk : ∀ (i : Int32) (h' : xe_H), i.toInt = x4.toInt + 6 → xk [(6, 0), (123, 0), (9, 0), (124, 0)] h h' → xw J ov 100 195 (23, [(4, .int i), (3, .ref 167), (2, .ref 115), (1, .ref 0), (0, .ref 1000000)], [], h') Q) : xw J ov 100 195 (1009, [(4, .int x4), (3, .ref 167), (2, .ref 115), (1, .ref 0), (0, .ref 1000000)], [], h) Q := by
  have K : xk [(6, 0), (123, 0), (9, 0), (124, 0)] h h := xk_re T
  refine xi_aload_n (pc' := 1010) (x := 0) kc_195_1009 rfl rfl ?_
  obtain ⟨u1, u2, bu1, bu2, A3⟩ := xq_0 K.1
  refine xi_virtual (mj := 160) (as := []) (st1 := []) (lv0 := [(0, .ref 0)]) kc_195_1010 rfl rfl rfl rfl rfl A3 (Nat.le_of_ble_eq_true rfl) (hJ _ _ _ _ (by decide)) (xm_le ml_160 rfl) rfl ?_
  refine mt_160_0 hJ hov1 hov2 (d := 86)  K.1 (fun r4 hh5 K6 => ?_)
  have br4 := xc_rng r4
  have K7 := xk_tr K K6 rfl
  obtain ⟨u8, u9, bu8, bu9, A10⟩ := xq_0 K7.1
  have e11 : u2 = u9 := xk_eqi (q := 9) K6 rfl A3 A10 rfl rfl
  subst e11
  show xw J ov 100 195 (1013, [(4, .int x4), (3, .ref 167), (2, .ref 115), (1, .ref 0), (0, .ref 1000000)], [.int r4], hh5) _
  refine xi_pop (pc' := 1014) kc_195_1013 rfl rfl ?_
  refine xi_aload_n (pc' := 1015) (x := 115) kc_195_1014 rfl rfl ?_
  obtain ⟨u12, u13, u14, u15, u16, u17, u18, u19, u20, u21, u22, u23, u24, bu12, bu13, bu14, bu15, bu16, bu17, bu18, bu19, bu20, bu21, bu22, bu23, bu24, A25⟩ := xq_115 K7.1
  refine xi_virtual (mj := 58) (as := []) (st1 := []) (lv0 := [(0, .ref 115)]) kc_195_1015 rfl rfl rfl rfl rfl A25 (Nat.le_of_ble_eq_true rfl) (hJ _ _ _ _ (by decide)) (xm_le ml_58 rfl) rfl ?_
  refine mt_58_0 hJ hov1 hov2 (d := 92)  K7.1 (fun r26 hh27 K28 => ?_)
  have br26 := xc_rng r26
  have K29 := xk_tr K7 K28 rfl
  obtain ⟨u30, u31, bu30, bu31, A32⟩ := xq_0 K29.1
  have e33 : u2 = u31 := xk_eqi (q := 9) K28 rfl A10 A32 rfl rfl
  subst e33
  obtain ⟨u34, u35, u36, u37, u38, u39, u40, u41, u42, u43, u44, u45, u46, bu34, bu35, bu36, bu37, bu38, bu39, bu40, bu41, bu42, bu43, bu44, bu45, bu46, A47⟩ := xq_115 K29.1
  have e48 : u13 = u35 := xk_eqi (q := 1) K28 rfl A25 A47 rfl rfl
  subst e48
  show xw J ov 100 195 (1018, [(4, .int x4), (3, .ref 167), (2, .ref 115), (1, .ref 0), (0, .ref 1000000)], [.int r26], hh27) _
  refine xi_pop (pc' := 1019) kc_195_1018 rfl rfl ?_
  refine xi_goto (pc' := 1501) kc_195_1019 rfl ?_
  obtain ⟨v49, ev49⟩ : ∃ q : Int32, x4 + 6 = q := ⟨_, rfl⟩
  have zv49 : v49.toInt = (x4.toInt + 6) := by rw [← ev49]; exact (xz_add (X := x4.toInt) (Y := 6) rfl (by decide) (by omega) (by omega)).trans (by omega)
  refine xi_iinc (pc' := 1504) (x := x4) (v := v49) (lv' := [(4, .int v49), (3, .ref 167), (2, .ref 115), (1, .ref 0), (0, .ref 1000000)]) kc_195_1501 rfl rfl ev49 rfl (xm_lt ml_195 rfl) ?_
  refine xi_goto (pc' := 23) kc_195_1504 rfl ?_
  exact kk v49 hh27 (by omega) K29
set_option maxHeartbeats 8000000 in
theorem lc_23 {J : xe_J} {ov : List (List Int32)} (hJ : ∀ d mj as h, mj ≠ xe_loff → J d mj as h = none) (hov1 : ov[1]? = some [10, 0, 0, 0, 0, 0]) (hov2 : ov[2]? = some [99, 30, 50, 50, 1, 99999]) {xs : List Int32} (hov0 : ov[0]? = some xs) {Q : Option Value → xe_H → Prop} {h : xe_H} {x4 : Int32} (hi0 : 0 ≤ x4.toInt) (hi1 : x4.toInt + 6 ≤ xs.length) (hi2 : x4.toInt ≤ 3066) (T : xt h) (kk : ∀ (i : Int32) (h' : xe_H), i.toInt = x4.toInt + 6 → xk [(6, 0), (123, 0), (9, 0), (124, 0)] h h' → xw J ov 100 195 (23, [(4, .int i), (3, .ref 167), (2, .ref 115), (1, .ref 0), (0, .ref 1000000)], [], h') Q) : xw J ov 100 195 (1022, [(4, .int x4), (3, .ref 167), (2, .ref 115), (1, .ref 0), (0, .ref 1000000)], [], h) Q := by
  have K : xk [(6, 0), (123, 0), (9, 0), (124, 0)] h h := xk_re T
  refine xi_aload_n (pc' := 1023) (x := 0) kc_195_1022 rfl rfl ?_
  refine xi_aload_n (pc' := 1024) (x := 1000000) kc_195_1023 rfl rfl ?_
  refine xi_iload (pc' := 1026) (x := x4) kc_195_1024 rfl rfl ?_
  refine xi_iconst (pc' := 1027) (v := 1) kc_195_1026 rfl rfl ?_
  obtain ⟨v1, ev1⟩ : ∃ q : Int32, x4 + 1 = q := ⟨_, rfl⟩
  have zv1 : v1.toInt = (x4.toInt + 1) := by rw [← ev1]; exact (xz_add (X := x4.toInt) (Y := 1) rfl (by decide) (by omega) (by omega)).trans (by omega)
  refine xi_iadd (pc' := 1028) (v := v1) kc_195_1027 rfl ev1 ?_
  obtain ⟨a2, ea2⟩ : ∃ q : Int32, xs.getD (Int32.toNatClampNeg v1) 0 = q := ⟨_, rfl⟩
  have ra2 := xc_rng a2
  refine xi_ialoadO (pc' := 1029) (v := a2) kc_195_1028 rfl (by decide) hov0 (xi_in (by omega) (by omega)) ea2 ?_
  refine xi_aload_n (pc' := 1030) (x := 1000000) kc_195_1029 rfl rfl ?_
  refine xi_iload (pc' := 1032) (x := x4) kc_195_1030 rfl rfl ?_
  refine xi_iconst (pc' := 1033) (v := 2) kc_195_1032 rfl rfl ?_
  obtain ⟨v3, ev3⟩ : ∃ q : Int32, x4 + 2 = q := ⟨_, rfl⟩
  have zv3 : v3.toInt = (x4.toInt + 2) := by rw [← ev3]; exact (xz_add (X := x4.toInt) (Y := 2) rfl (by decide) (by omega) (by omega)).trans (by omega)
  refine xi_iadd (pc' := 1034) (v := v3) kc_195_1033 rfl ev3 ?_
  obtain ⟨a4, ea4⟩ : ∃ q : Int32, xs.getD (Int32.toNatClampNeg v3) 0 = q := ⟨_, rfl⟩
  have ra4 := xc_rng a4
  refine xi_ialoadO (pc' := 1035) (v := a4) kc_195_1034 rfl (by decide) hov0 (xi_in (by omega) (by omega)) ea4 ?_
  refine xi_aload_n (pc' := 1036) (x := 1000000) kc_195_1035 rfl rfl ?_
  refine xi_iload (pc' := 1038) (x := x4) kc_195_1036 rfl rfl ?_
  refine xi_iconst (pc' := 1039) (v := 3) kc_195_1038 rfl rfl ?_
  obtain ⟨v5, ev5⟩ : ∃ q : Int32, x4 + 3 = q := ⟨_, rfl⟩
  have zv5 : v5.toInt = (x4.toInt + 3) := by rw [← ev5]; exact (xz_add (X := x4.toInt) (Y := 3) rfl (by decide) (by omega) (by omega)).trans (by omega)
  refine xi_iadd (pc' := 1040) (v := v5) kc_195_1039 rfl ev5 ?_
  obtain ⟨a6, ea6⟩ : ∃ q : Int32, xs.getD (Int32.toNatClampNeg v5) 0 = q := ⟨_, rfl⟩
  have ra6 := xc_rng a6
  refine xi_ialoadO (pc' := 1041) (v := a6) kc_195_1040 rfl (by decide) hov0 (xi_in (by omega) (by omega)) ea6 ?_
  refine xi_aload_n (pc' := 1042) (x := 1000000) kc_195_1041 rfl rfl ?_
  refine xi_iload (pc' := 1044) (x := x4) kc_195_1042 rfl rfl ?_
  refine xi_iconst (pc' := 1045) (v := 4) kc_195_1044 rfl rfl ?_
  obtain ⟨v7, ev7⟩ : ∃ q : Int32, x4 + 4 = q := ⟨_, rfl⟩
  have zv7 : v7.toInt = (x4.toInt + 4) := by rw [← ev7]; exact (xz_add (X := x4.toInt) (Y := 4) rfl (by decide) (by omega) (by omega)).trans (by omega)
  refine xi_iadd (pc' := 1046) (v := v7) kc_195_1045 rfl ev7 ?_
  obtain ⟨a8, ea8⟩ : ∃ q : Int32, xs.getD (Int32.toNatClampNeg v7) 0 = q := ⟨_, rfl⟩
  have ra8 := xc_rng a8
  refine xi_ialoadO (pc' := 1047) (v := a8) kc_195_1046 rfl (by decide) hov0 (xi_in (by omega) (by omega)) ea8 ?_
  refine xi_aload_n (pc' := 1048) (x := 1000000) kc_195_1047 rfl rfl ?_
  refine xi_iload (pc' := 1050) (x := x4) kc_195_1048 rfl rfl ?_
  refine xi_iconst (pc' := 1051) (v := 5) kc_195_1050 rfl rfl ?_
  obtain ⟨v9, ev9⟩ : ∃ q : Int32, x4 + 5 = q := ⟨_, rfl⟩
  have zv9 : v9.toInt = (x4.toInt + 5) := by rw [← ev9]; exact (xz_add (X := x4.toInt) (Y := 5) rfl (by decide) (by omega) (by omega)).trans (by omega)
  refine xi_iadd (pc' := 1052) (v := v9) kc_195_1051 rfl ev9 ?_
  obtain ⟨a10, ea10⟩ : ∃ q : Int32, xs.getD (Int32.toNatClampNeg v9) 0 = q := ⟨_, rfl⟩
  have ra10 := xc_rng a10
  refine xi_ialoadO (pc' := 1053) (v := a10) kc_195_1052 rfl (by decide) hov0 (xi_in (by omega) (by omega)) ea10 ?_
  obtain ⟨u11, u12, bu11, bu12, A13⟩ := xq_0 K.1
  refine xi_virtual (mj := 163) (as := [.int a2, .int a4, .int a6, .int a8, .int a10]) (st1 := []) (lv0 := [(0, .ref 0), (1, .int a2), (2, .int a4), (3, .int a6), (4, .int a8), (5, .int a10)]) kc_195_1053 rfl rfl rfl rfl rfl A13 (Nat.le_of_ble_eq_true rfl) (hJ _ _ _ _ (by decide)) (xm_le ml_163 rfl) rfl ?_
  refine mt_163_0 hJ hov1 hov2 (d := 97) (x1 := a2) (x2 := a4) (x3 := a6) (x4 := a8) (x5 := a10) K.1 (fun r14 hh15 br14 K16 => ?_)
  have K17 := xk_tr K K16 rfl
  obtain ⟨u18, u19, bu18, bu19, A20⟩ := xq_0 K17.1
  have e21 : u12 = u19 := xk_eqi (q := 9) K16 rfl A13 A20 rfl rfl
  subst e21
  show xw J ov 100 195 (1056, [(4, .int x4), (3, .ref 167), (2, .ref 115), (1, .ref 0), (0, .ref 1000000)], [.int r14], hh15) _
  refine xi_pop (pc' := 1057) kc_195_1056 rfl rfl ?_
  refine xi_aload_n (pc' := 1058) (x := 115) kc_195_1057 rfl rfl ?_
  refine xi_aload_n (pc' := 1059) (x := 1000000) kc_195_1058 rfl rfl ?_
  refine xi_iload (pc' := 1061) (x := x4) kc_195_1059 rfl rfl ?_
  refine xi_iconst (pc' := 1062) (v := 1) kc_195_1061 rfl rfl ?_
  refine xi_iadd (pc' := 1063) (v := v1) kc_195_1062 rfl ev1 ?_
  refine xi_ialoadO (pc' := 1064) (v := a2) kc_195_1063 rfl (by decide) hov0 (xi_in (by omega) (by omega)) ea2 ?_
  refine xi_aload_n (pc' := 1065) (x := 1000000) kc_195_1064 rfl rfl ?_
  refine xi_iload (pc' := 1067) (x := x4) kc_195_1065 rfl rfl ?_
  refine xi_iconst (pc' := 1068) (v := 2) kc_195_1067 rfl rfl ?_
  refine xi_iadd (pc' := 1069) (v := v3) kc_195_1068 rfl ev3 ?_
  refine xi_ialoadO (pc' := 1070) (v := a4) kc_195_1069 rfl (by decide) hov0 (xi_in (by omega) (by omega)) ea4 ?_
  refine xi_aload_n (pc' := 1071) (x := 1000000) kc_195_1070 rfl rfl ?_
  refine xi_iload (pc' := 1073) (x := x4) kc_195_1071 rfl rfl ?_
  refine xi_iconst (pc' := 1074) (v := 3) kc_195_1073 rfl rfl ?_
  refine xi_iadd (pc' := 1075) (v := v5) kc_195_1074 rfl ev5 ?_
  refine xi_ialoadO (pc' := 1076) (v := a6) kc_195_1075 rfl (by decide) hov0 (xi_in (by omega) (by omega)) ea6 ?_
  refine xi_aload_n (pc' := 1077) (x := 1000000) kc_195_1076 rfl rfl ?_
  refine xi_iload (pc' := 1079) (x := x4) kc_195_1077 rfl rfl ?_
  refine xi_iconst (pc' := 1080) (v := 4) kc_195_1079 rfl rfl ?_
  refine xi_iadd (pc' := 1081) (v := v7) kc_195_1080 rfl ev7 ?_
  refine xi_ialoadO (pc' := 1082) (v := a8) kc_195_1081 rfl (by decide) hov0 (xi_in (by omega) (by omega)) ea8 ?_
  refine xi_aload_n (pc' := 1083) (x := 1000000) kc_195_1082 rfl rfl ?_
  refine xi_iload (pc' := 1085) (x := x4) kc_195_1083 rfl rfl ?_
  refine xi_iconst (pc' := 1086) (v := 5) kc_195_1085 rfl rfl ?_
  refine xi_iadd (pc' := 1087) (v := v9) kc_195_1086 rfl ev9 ?_
  refine xi_ialoadO (pc' := 1088) (v := a10) kc_195_1087 rfl (by decide) hov0 (xi_in (by omega) (by omega)) ea10 ?_
  obtain ⟨u22, u23, u24, u25, u26, u27, u28, u29, u30, u31, u32, u33, u34, bu22, bu23, bu24, bu25, bu26, bu27, bu28, bu29, bu30, bu31, bu32, bu33, bu34, A35⟩ := xq_115 K17.1
  refine xi_virtual (mj := 61) (as := [.int a2, .int a4, .int a6, .int a8, .int a10]) (st1 := []) (lv0 := [(0, .ref 115), (1, .int a2), (2, .int a4), (3, .int a6), (4, .int a8), (5, .int a10)]) kc_195_1088 rfl rfl rfl rfl rfl A35 (Nat.le_of_ble_eq_true rfl) (hJ _ _ _ _ (by decide)) (xm_le ml_61 rfl) rfl ?_
  refine mt_61_0 hJ hov1 hov2 (d := 97) (x1 := a2) (x2 := a4) (x3 := a6) (x4 := a8) (x5 := a10) K17.1 (fun r36 hh37 br36 K38 => ?_)
  have K39 := xk_tr K17 K38 rfl
  obtain ⟨u40, u41, bu40, bu41, A42⟩ := xq_0 K39.1
  have e43 : u12 = u41 := xk_eqi (q := 9) K38 rfl A20 A42 rfl rfl
  subst e43
  obtain ⟨u44, u45, u46, u47, u48, u49, u50, u51, u52, u53, u54, u55, u56, bu44, bu45, bu46, bu47, bu48, bu49, bu50, bu51, bu52, bu53, bu54, bu55, bu56, A57⟩ := xq_115 K39.1
  have e58 : u23 = u45 := xk_eqi (q := 1) K38 rfl A35 A57 rfl rfl
  subst e58
  show xw J ov 100 195 (1091, [(4, .int x4), (3, .ref 167), (2, .ref 115), (1, .ref 0), (0, .ref 1000000)], [.int r36], hh37) _
  refine xi_pop (pc' := 1092) kc_195_1091 rfl rfl ?_
  refine xi_goto (pc' := 1501) kc_195_1092 rfl ?_
  obtain ⟨v59, ev59⟩ : ∃ q : Int32, x4 + 6 = q := ⟨_, rfl⟩
  have zv59 : v59.toInt = (x4.toInt + 6) := by rw [← ev59]; exact (xz_add (X := x4.toInt) (Y := 6) rfl (by decide) (by omega) (by omega)).trans (by omega)
  refine xi_iinc (pc' := 1504) (x := x4) (v := v59) (lv' := [(4, .int v59), (3, .ref 167), (2, .ref 115), (1, .ref 0), (0, .ref 1000000)]) kc_195_1501 rfl rfl ev59 rfl (xm_lt ml_195 rfl) ?_
  refine xi_goto (pc' := 23) kc_195_1504 rfl ?_
  exact kk v59 hh37 (by omega) K39
set_option maxHeartbeats 8000000 in
theorem lc_24 {J : xe_J} {ov : List (List Int32)} (hJ : ∀ d mj as h, mj ≠ xe_loff → J d mj as h = none) (hov1 : ov[1]? = some [10, 0, 0, 0, 0, 0]) (hov2 : ov[2]? = some [99, 30, 50, 50, 1, 99999]) {xs : List Int32} (hov0 : ov[0]? = some xs) {Q : Option Value → xe_H → Prop} {h : xe_H} {x4 : Int32} (hi0 : 0 ≤ x4.toInt) (hi1 : x4.toInt + 6 ≤ xs.length) (hi2 : x4.toInt ≤ 3066) (T : xt h) (kk : ∀ (i : Int32) (h' : xe_H), i.toInt = x4.toInt + 6 → xk [(6, 0), (123, 0), (9, 0), (124, 0)] h h' → xw J ov 100 195 (23, [(4, .int i), (3, .ref 167), (2, .ref 115), (1, .ref 0), (0, .ref 1000000)], [], h') Q) : xw J ov 100 195 (1095, [(4, .int x4), (3, .ref 167), (2, .ref 115), (1, .ref 0), (0, .ref 1000000)], [], h) Q := by
  have K : xk [(6, 0), (123, 0), (9, 0), (124, 0)] h h := xk_re T
  refine xi_aload_n (pc' := 1096) (x := 0) kc_195_1095 rfl rfl ?_
  refine xi_aload_n (pc' := 1097) (x := 1000000) kc_195_1096 rfl rfl ?_
  refine xi_iload (pc' := 1099) (x := x4) kc_195_1097 rfl rfl ?_
  refine xi_iconst (pc' := 1100) (v := 1) kc_195_1099 rfl rfl ?_
  obtain ⟨v1, ev1⟩ : ∃ q : Int32, x4 + 1 = q := ⟨_, rfl⟩
  have zv1 : v1.toInt = (x4.toInt + 1) := by rw [← ev1]; exact (xz_add (X := x4.toInt) (Y := 1) rfl (by decide) (by omega) (by omega)).trans (by omega)
  refine xi_iadd (pc' := 1101) (v := v1) kc_195_1100 rfl ev1 ?_
  obtain ⟨a2, ea2⟩ : ∃ q : Int32, xs.getD (Int32.toNatClampNeg v1) 0 = q := ⟨_, rfl⟩
  have ra2 := xc_rng a2
  refine xi_ialoadO (pc' := 1102) (v := a2) kc_195_1101 rfl (by decide) hov0 (xi_in (by omega) (by omega)) ea2 ?_
  refine xi_aload_n (pc' := 1103) (x := 1000000) kc_195_1102 rfl rfl ?_
  refine xi_iload (pc' := 1105) (x := x4) kc_195_1103 rfl rfl ?_
  refine xi_iconst (pc' := 1106) (v := 2) kc_195_1105 rfl rfl ?_
  obtain ⟨v3, ev3⟩ : ∃ q : Int32, x4 + 2 = q := ⟨_, rfl⟩
  have zv3 : v3.toInt = (x4.toInt + 2) := by rw [← ev3]; exact (xz_add (X := x4.toInt) (Y := 2) rfl (by decide) (by omega) (by omega)).trans (by omega)
  refine xi_iadd (pc' := 1107) (v := v3) kc_195_1106 rfl ev3 ?_
  obtain ⟨a4, ea4⟩ : ∃ q : Int32, xs.getD (Int32.toNatClampNeg v3) 0 = q := ⟨_, rfl⟩
  have ra4 := xc_rng a4
  refine xi_ialoadO (pc' := 1108) (v := a4) kc_195_1107 rfl (by decide) hov0 (xi_in (by omega) (by omega)) ea4 ?_
  obtain ⟨u5, u6, bu5, bu6, A7⟩ := xq_0 K.1
  refine xi_virtual (mj := 165) (as := [.int a2, .int a4]) (st1 := []) (lv0 := [(0, .ref 0), (1, .int a2), (2, .int a4)]) kc_195_1108 rfl rfl rfl rfl rfl A7 (Nat.le_of_ble_eq_true rfl) (hJ _ _ _ _ (by decide)) (xm_le ml_165 rfl) rfl ?_
  refine mt_165_0 hJ hov1 hov2 (d := 97) (x1 := a2) (x2 := a4) K.1 (fun r8 hh9 K10 => ?_)
  have br8 := xc_rng r8
  have K11 := xk_tr K K10 rfl
  obtain ⟨u12, u13, bu12, bu13, A14⟩ := xq_0 K11.1
  have e15 : u6 = u13 := xk_eqi (q := 9) K10 rfl A7 A14 rfl rfl
  subst e15
  show xw J ov 100 195 (1111, [(4, .int x4), (3, .ref 167), (2, .ref 115), (1, .ref 0), (0, .ref 1000000)], [.int r8], hh9) _
  refine xi_pop (pc' := 1112) kc_195_1111 rfl rfl ?_
  refine xi_aload_n (pc' := 1113) (x := 115) kc_195_1112 rfl rfl ?_
  refine xi_aload_n (pc' := 1114) (x := 1000000) kc_195_1113 rfl rfl ?_
  refine xi_iload (pc' := 1116) (x := x4) kc_195_1114 rfl rfl ?_
  refine xi_iconst (pc' := 1117) (v := 1) kc_195_1116 rfl rfl ?_
  refine xi_iadd (pc' := 1118) (v := v1) kc_195_1117 rfl ev1 ?_
  refine xi_ialoadO (pc' := 1119) (v := a2) kc_195_1118 rfl (by decide) hov0 (xi_in (by omega) (by omega)) ea2 ?_
  refine xi_aload_n (pc' := 1120) (x := 1000000) kc_195_1119 rfl rfl ?_
  refine xi_iload (pc' := 1122) (x := x4) kc_195_1120 rfl rfl ?_
  refine xi_iconst (pc' := 1123) (v := 2) kc_195_1122 rfl rfl ?_
  refine xi_iadd (pc' := 1124) (v := v3) kc_195_1123 rfl ev3 ?_
  refine xi_ialoadO (pc' := 1125) (v := a4) kc_195_1124 rfl (by decide) hov0 (xi_in (by omega) (by omega)) ea4 ?_
  obtain ⟨u16, u17, u18, u19, u20, u21, u22, u23, u24, u25, u26, u27, u28, bu16, bu17, bu18, bu19, bu20, bu21, bu22, bu23, bu24, bu25, bu26, bu27, bu28, A29⟩ := xq_115 K11.1
  refine xi_virtual (mj := 62) (as := [.int a2, .int a4]) (st1 := []) (lv0 := [(0, .ref 115), (1, .int a2), (2, .int a4)]) kc_195_1125 rfl rfl rfl rfl rfl A29 (Nat.le_of_ble_eq_true rfl) (hJ _ _ _ _ (by decide)) (xm_le ml_62 rfl) rfl ?_
  refine mt_62_0 hJ hov1 hov2 (d := 97) (x1 := a2) (x2 := a4) K11.1 (fun r30 hh31 K32 => ?_)
  have br30 := xc_rng r30
  have K33 := xk_tr K11 K32 rfl
  obtain ⟨u34, u35, bu34, bu35, A36⟩ := xq_0 K33.1
  have e37 : u6 = u35 := xk_eqi (q := 9) K32 rfl A14 A36 rfl rfl
  subst e37
  obtain ⟨u38, u39, u40, u41, u42, u43, u44, u45, u46, u47, u48, u49, u50, bu38, bu39, bu40, bu41, bu42, bu43, bu44, bu45, bu46, bu47, bu48, bu49, bu50, A51⟩ := xq_115 K33.1
  have e52 : u17 = u39 := xk_eqi (q := 1) K32 rfl A29 A51 rfl rfl
  subst e52
  show xw J ov 100 195 (1128, [(4, .int x4), (3, .ref 167), (2, .ref 115), (1, .ref 0), (0, .ref 1000000)], [.int r30], hh31) _
  refine xi_pop (pc' := 1129) kc_195_1128 rfl rfl ?_
  refine xi_goto (pc' := 1501) kc_195_1129 rfl ?_
  obtain ⟨v53, ev53⟩ : ∃ q : Int32, x4 + 6 = q := ⟨_, rfl⟩
  have zv53 : v53.toInt = (x4.toInt + 6) := by rw [← ev53]; exact (xz_add (X := x4.toInt) (Y := 6) rfl (by decide) (by omega) (by omega)).trans (by omega)
  refine xi_iinc (pc' := 1504) (x := x4) (v := v53) (lv' := [(4, .int v53), (3, .ref 167), (2, .ref 115), (1, .ref 0), (0, .ref 1000000)]) kc_195_1501 rfl rfl ev53 rfl (xm_lt ml_195 rfl) ?_
  refine xi_goto (pc' := 23) kc_195_1504 rfl ?_
  exact kk v53 hh31 (by omega) K33
set_option maxHeartbeats 8000000 in
theorem lc_25 {J : xe_J} {ov : List (List Int32)} (hJ : ∀ d mj as h, mj ≠ xe_loff → J d mj as h = none) (hov1 : ov[1]? = some [10, 0, 0, 0, 0, 0]) (hov2 : ov[2]? = some [99, 30, 50, 50, 1, 99999]) {xs : List Int32} (hov0 : ov[0]? = some xs) {Q : Option Value → xe_H → Prop} {h : xe_H} {x4 : Int32} (hi0 : 0 ≤ x4.toInt) (hi1 : x4.toInt + 6 ≤ xs.length) (hi2 : x4.toInt ≤ 3066) (T : xt h) (kk : ∀ (i : Int32) (h' : xe_H), i.toInt = x4.toInt + 6 → xk [(6, 0), (123, 0), (9, 0), (124, 0)] h h' → xw J ov 100 195 (23, [(4, .int i), (3, .ref 167), (2, .ref 115), (1, .ref 0), (0, .ref 1000000)], [], h') Q) : xw J ov 100 195 (1132, [(4, .int x4), (3, .ref 167), (2, .ref 115), (1, .ref 0), (0, .ref 1000000)], [], h) Q := by
  have K : xk [(6, 0), (123, 0), (9, 0), (124, 0)] h h := xk_re T
  refine xi_aload_n (pc' := 1133) (x := 0) kc_195_1132 rfl rfl ?_
  refine xi_aload_n (pc' := 1134) (x := 1000000) kc_195_1133 rfl rfl ?_
  refine xi_iload (pc' := 1136) (x := x4) kc_195_1134 rfl rfl ?_
  refine xi_iconst (pc' := 1137) (v := 1) kc_195_1136 rfl rfl ?_
  obtain ⟨v1, ev1⟩ : ∃ q : Int32, x4 + 1 = q := ⟨_, rfl⟩
  have zv1 : v1.toInt = (x4.toInt + 1) := by rw [← ev1]; exact (xz_add (X := x4.toInt) (Y := 1) rfl (by decide) (by omega) (by omega)).trans (by omega)
  refine xi_iadd (pc' := 1138) (v := v1) kc_195_1137 rfl ev1 ?_
  obtain ⟨a2, ea2⟩ : ∃ q : Int32, xs.getD (Int32.toNatClampNeg v1) 0 = q := ⟨_, rfl⟩
  have ra2 := xc_rng a2
  refine xi_ialoadO (pc' := 1139) (v := a2) kc_195_1138 rfl (by decide) hov0 (xi_in (by omega) (by omega)) ea2 ?_
  refine xi_aload_n (pc' := 1140) (x := 1000000) kc_195_1139 rfl rfl ?_
  refine xi_iload (pc' := 1142) (x := x4) kc_195_1140 rfl rfl ?_
  refine xi_iconst (pc' := 1143) (v := 2) kc_195_1142 rfl rfl ?_
  obtain ⟨v3, ev3⟩ : ∃ q : Int32, x4 + 2 = q := ⟨_, rfl⟩
  have zv3 : v3.toInt = (x4.toInt + 2) := by rw [← ev3]; exact (xz_add (X := x4.toInt) (Y := 2) rfl (by decide) (by omega) (by omega)).trans (by omega)
  refine xi_iadd (pc' := 1144) (v := v3) kc_195_1143 rfl ev3 ?_
  obtain ⟨a4, ea4⟩ : ∃ q : Int32, xs.getD (Int32.toNatClampNeg v3) 0 = q := ⟨_, rfl⟩
  have ra4 := xc_rng a4
  refine xi_ialoadO (pc' := 1145) (v := a4) kc_195_1144 rfl (by decide) hov0 (xi_in (by omega) (by omega)) ea4 ?_
  refine xi_aload_n (pc' := 1146) (x := 1000000) kc_195_1145 rfl rfl ?_
  refine xi_iload (pc' := 1148) (x := x4) kc_195_1146 rfl rfl ?_
  refine xi_iconst (pc' := 1149) (v := 3) kc_195_1148 rfl rfl ?_
  obtain ⟨v5, ev5⟩ : ∃ q : Int32, x4 + 3 = q := ⟨_, rfl⟩
  have zv5 : v5.toInt = (x4.toInt + 3) := by rw [← ev5]; exact (xz_add (X := x4.toInt) (Y := 3) rfl (by decide) (by omega) (by omega)).trans (by omega)
  refine xi_iadd (pc' := 1150) (v := v5) kc_195_1149 rfl ev5 ?_
  obtain ⟨a6, ea6⟩ : ∃ q : Int32, xs.getD (Int32.toNatClampNeg v5) 0 = q := ⟨_, rfl⟩
  have ra6 := xc_rng a6
  refine xi_ialoadO (pc' := 1151) (v := a6) kc_195_1150 rfl (by decide) hov0 (xi_in (by omega) (by omega)) ea6 ?_
  refine xi_aload_n (pc' := 1152) (x := 1000000) kc_195_1151 rfl rfl ?_
  refine xi_iload (pc' := 1154) (x := x4) kc_195_1152 rfl rfl ?_
  refine xi_iconst (pc' := 1155) (v := 4) kc_195_1154 rfl rfl ?_
  obtain ⟨v7, ev7⟩ : ∃ q : Int32, x4 + 4 = q := ⟨_, rfl⟩
  have zv7 : v7.toInt = (x4.toInt + 4) := by rw [← ev7]; exact (xz_add (X := x4.toInt) (Y := 4) rfl (by decide) (by omega) (by omega)).trans (by omega)
  refine xi_iadd (pc' := 1156) (v := v7) kc_195_1155 rfl ev7 ?_
  obtain ⟨a8, ea8⟩ : ∃ q : Int32, xs.getD (Int32.toNatClampNeg v7) 0 = q := ⟨_, rfl⟩
  have ra8 := xc_rng a8
  refine xi_ialoadO (pc' := 1157) (v := a8) kc_195_1156 rfl (by decide) hov0 (xi_in (by omega) (by omega)) ea8 ?_
  obtain ⟨u9, u10, bu9, bu10, A11⟩ := xq_0 K.1
  refine xi_virtual (mj := 167) (as := [.int a2, .int a4, .int a6, .int a8]) (st1 := []) (lv0 := [(0, .ref 0), (1, .int a2), (2, .int a4), (3, .int a6), (4, .int a8)]) kc_195_1157 rfl rfl rfl rfl rfl A11 (Nat.le_of_ble_eq_true rfl) (hJ _ _ _ _ (by decide)) (xm_le ml_167 rfl) rfl ?_
  refine mt_167_0 hJ hov1 hov2 (d := 98) (x1 := a2) (x2 := a4) (x3 := a6) (x4 := a8) K.1 (fun r12 hh13 br12 K14 => ?_)
  have K15 := xk_tr K K14 rfl
  obtain ⟨u16, u17, bu16, bu17, A18⟩ := xq_0 K15.1
  have e19 : u10 = u17 := xk_eqi (q := 9) K14 rfl A11 A18 rfl rfl
  subst e19
  show xw J ov 100 195 (1160, [(4, .int x4), (3, .ref 167), (2, .ref 115), (1, .ref 0), (0, .ref 1000000)], [.int r12], hh13) _
  refine xi_pop (pc' := 1161) kc_195_1160 rfl rfl ?_
  refine xi_aload_n (pc' := 1162) (x := 115) kc_195_1161 rfl rfl ?_
  refine xi_aload_n (pc' := 1163) (x := 1000000) kc_195_1162 rfl rfl ?_
  refine xi_iload (pc' := 1165) (x := x4) kc_195_1163 rfl rfl ?_
  refine xi_iconst (pc' := 1166) (v := 1) kc_195_1165 rfl rfl ?_
  refine xi_iadd (pc' := 1167) (v := v1) kc_195_1166 rfl ev1 ?_
  refine xi_ialoadO (pc' := 1168) (v := a2) kc_195_1167 rfl (by decide) hov0 (xi_in (by omega) (by omega)) ea2 ?_
  refine xi_aload_n (pc' := 1169) (x := 1000000) kc_195_1168 rfl rfl ?_
  refine xi_iload (pc' := 1171) (x := x4) kc_195_1169 rfl rfl ?_
  refine xi_iconst (pc' := 1172) (v := 2) kc_195_1171 rfl rfl ?_
  refine xi_iadd (pc' := 1173) (v := v3) kc_195_1172 rfl ev3 ?_
  refine xi_ialoadO (pc' := 1174) (v := a4) kc_195_1173 rfl (by decide) hov0 (xi_in (by omega) (by omega)) ea4 ?_
  refine xi_aload_n (pc' := 1175) (x := 1000000) kc_195_1174 rfl rfl ?_
  refine xi_iload (pc' := 1177) (x := x4) kc_195_1175 rfl rfl ?_
  refine xi_iconst (pc' := 1178) (v := 3) kc_195_1177 rfl rfl ?_
  refine xi_iadd (pc' := 1179) (v := v5) kc_195_1178 rfl ev5 ?_
  refine xi_ialoadO (pc' := 1180) (v := a6) kc_195_1179 rfl (by decide) hov0 (xi_in (by omega) (by omega)) ea6 ?_
  refine xi_aload_n (pc' := 1181) (x := 1000000) kc_195_1180 rfl rfl ?_
  refine xi_iload (pc' := 1183) (x := x4) kc_195_1181 rfl rfl ?_
  refine xi_iconst (pc' := 1184) (v := 4) kc_195_1183 rfl rfl ?_
  refine xi_iadd (pc' := 1185) (v := v7) kc_195_1184 rfl ev7 ?_
  refine xi_ialoadO (pc' := 1186) (v := a8) kc_195_1185 rfl (by decide) hov0 (xi_in (by omega) (by omega)) ea8 ?_
  obtain ⟨u20, u21, u22, u23, u24, u25, u26, u27, u28, u29, u30, u31, u32, bu20, bu21, bu22, bu23, bu24, bu25, bu26, bu27, bu28, bu29, bu30, bu31, bu32, A33⟩ := xq_115 K15.1
  refine xi_virtual (mj := 64) (as := [.int a2, .int a4, .int a6, .int a8]) (st1 := []) (lv0 := [(0, .ref 115), (1, .int a2), (2, .int a4), (3, .int a6), (4, .int a8)]) kc_195_1186 rfl rfl rfl rfl rfl A33 (Nat.le_of_ble_eq_true rfl) (hJ _ _ _ _ (by decide)) (xm_le ml_64 rfl) rfl ?_
  refine mt_64_0 hJ hov1 hov2 (d := 98) (x1 := a2) (x2 := a4) (x3 := a6) (x4 := a8) K15.1 (fun r34 hh35 br34 K36 => ?_)
  have K37 := xk_tr K15 K36 rfl
  obtain ⟨u38, u39, bu38, bu39, A40⟩ := xq_0 K37.1
  have e41 : u10 = u39 := xk_eqi (q := 9) K36 rfl A18 A40 rfl rfl
  subst e41
  obtain ⟨u42, u43, u44, u45, u46, u47, u48, u49, u50, u51, u52, u53, u54, bu42, bu43, bu44, bu45, bu46, bu47, bu48, bu49, bu50, bu51, bu52, bu53, bu54, A55⟩ := xq_115 K37.1
  have e56 : u21 = u43 := xk_eqi (q := 1) K36 rfl A33 A55 rfl rfl
  subst e56
  show xw J ov 100 195 (1189, [(4, .int x4), (3, .ref 167), (2, .ref 115), (1, .ref 0), (0, .ref 1000000)], [.int r34], hh35) _
  refine xi_pop (pc' := 1190) kc_195_1189 rfl rfl ?_
  refine xi_goto (pc' := 1501) kc_195_1190 rfl ?_
  obtain ⟨v57, ev57⟩ : ∃ q : Int32, x4 + 6 = q := ⟨_, rfl⟩
  have zv57 : v57.toInt = (x4.toInt + 6) := by rw [← ev57]; exact (xz_add (X := x4.toInt) (Y := 6) rfl (by decide) (by omega) (by omega)).trans (by omega)
  refine xi_iinc (pc' := 1504) (x := x4) (v := v57) (lv' := [(4, .int v57), (3, .ref 167), (2, .ref 115), (1, .ref 0), (0, .ref 1000000)]) kc_195_1501 rfl rfl ev57 rfl (xm_lt ml_195 rfl) ?_
  refine xi_goto (pc' := 23) kc_195_1504 rfl ?_
  exact kk v57 hh35 (by omega) K37
set_option maxHeartbeats 8000000 in
theorem lc_26 {J : xe_J} {ov : List (List Int32)} (hJ : ∀ d mj as h, mj ≠ xe_loff → J d mj as h = none) (hov1 : ov[1]? = some [10, 0, 0, 0, 0, 0]) (hov2 : ov[2]? = some [99, 30, 50, 50, 1, 99999]) {xs : List Int32} (hov0 : ov[0]? = some xs) {Q : Option Value → xe_H → Prop} {h : xe_H} {x4 : Int32} (hi0 : 0 ≤ x4.toInt) (hi1 : x4.toInt + 6 ≤ xs.length) (hi2 : x4.toInt ≤ 3066) (T : xt h) (kk : ∀ (i : Int32) (h' : xe_H), i.toInt = x4.toInt + 6 → xk [(6, 0), (123, 0), (9, 0), (124, 0)] h h' → xw J ov 100 195 (23, [(4, .int i), (3, .ref 167), (2, .ref 115), (1, .ref 0), (0, .ref 1000000)], [], h') Q) : xw J ov 100 195 (1193, [(4, .int x4), (3, .ref 167), (2, .ref 115), (1, .ref 0), (0, .ref 1000000)], [], h) Q := by
  have K : xk [(6, 0), (123, 0), (9, 0), (124, 0)] h h := xk_re T
  refine xi_aload_n (pc' := 1194) (x := 0) kc_195_1193 rfl rfl ?_
  obtain ⟨u1, u2, bu1, bu2, A3⟩ := xq_0 K.1
  refine xi_virtual (mj := 169) (as := []) (st1 := []) (lv0 := [(0, .ref 0)]) kc_195_1194 rfl rfl rfl rfl rfl A3 (Nat.le_of_ble_eq_true rfl) (hJ _ _ _ _ (by decide)) (xm_le ml_169 rfl) rfl ?_
  refine mt_169_0 hJ hov1 hov2 (d := 95)  K.1 (fun r4 hh5 K6 => ?_)
  have br4 := xc_rng r4
  have K7 := xk_tr K K6 rfl
  obtain ⟨u8, u9, bu8, bu9, A10⟩ := xq_0 K7.1
  have e11 : u2 = u9 := xk_eqi (q := 9) K6 rfl A3 A10 rfl rfl
  subst e11
  show xw J ov 100 195 (1197, [(4, .int x4), (3, .ref 167), (2, .ref 115), (1, .ref 0), (0, .ref 1000000)], [.int r4], hh5) _
  refine xi_pop (pc' := 1198) kc_195_1197 rfl rfl ?_
  refine xi_aload_n (pc' := 1199) (x := 115) kc_195_1198 rfl rfl ?_
  obtain ⟨u12, u13, u14, u15, u16, u17, u18, u19, u20, u21, u22, u23, u24, bu12, bu13, bu14, bu15, bu16, bu17, bu18, bu19, bu20, bu21, bu22, bu23, bu24, A25⟩ := xq_115 K7.1
  refine xi_virtual (mj := 65) (as := []) (st1 := []) (lv0 := [(0, .ref 115)]) kc_195_1199 rfl rfl rfl rfl rfl A25 (Nat.le_of_ble_eq_true rfl) (hJ _ _ _ _ (by decide)) (xm_le ml_65 rfl) rfl ?_
  refine mt_65_0 hJ hov1 hov2 (d := 97)  K7.1 (fun r26 hh27 K28 => ?_)
  have br26 := xc_rng r26
  have K29 := xk_tr K7 K28 rfl
  obtain ⟨u30, u31, bu30, bu31, A32⟩ := xq_0 K29.1
  have e33 : u2 = u31 := xk_eqi (q := 9) K28 rfl A10 A32 rfl rfl
  subst e33
  obtain ⟨u34, u35, u36, u37, u38, u39, u40, u41, u42, u43, u44, u45, u46, bu34, bu35, bu36, bu37, bu38, bu39, bu40, bu41, bu42, bu43, bu44, bu45, bu46, A47⟩ := xq_115 K29.1
  have e48 : u13 = u35 := xk_eqi (q := 1) K28 rfl A25 A47 rfl rfl
  subst e48
  show xw J ov 100 195 (1202, [(4, .int x4), (3, .ref 167), (2, .ref 115), (1, .ref 0), (0, .ref 1000000)], [.int r26], hh27) _
  refine xi_pop (pc' := 1203) kc_195_1202 rfl rfl ?_
  refine xi_goto (pc' := 1501) kc_195_1203 rfl ?_
  obtain ⟨v49, ev49⟩ : ∃ q : Int32, x4 + 6 = q := ⟨_, rfl⟩
  have zv49 : v49.toInt = (x4.toInt + 6) := by rw [← ev49]; exact (xz_add (X := x4.toInt) (Y := 6) rfl (by decide) (by omega) (by omega)).trans (by omega)
  refine xi_iinc (pc' := 1504) (x := x4) (v := v49) (lv' := [(4, .int v49), (3, .ref 167), (2, .ref 115), (1, .ref 0), (0, .ref 1000000)]) kc_195_1501 rfl rfl ev49 rfl (xm_lt ml_195 rfl) ?_
  refine xi_goto (pc' := 23) kc_195_1504 rfl ?_
  exact kk v49 hh27 (by omega) K29
set_option maxHeartbeats 8000000 in
theorem lc_27 {J : xe_J} {ov : List (List Int32)} (hJ : ∀ d mj as h, mj ≠ xe_loff → J d mj as h = none) (hov1 : ov[1]? = some [10, 0, 0, 0, 0, 0]) (hov2 : ov[2]? = some [99, 30, 50, 50, 1, 99999]) {xs : List Int32} (hov0 : ov[0]? = some xs) {Q : Option Value → xe_H → Prop} {h : xe_H} {x4 : Int32} (hi0 : 0 ≤ x4.toInt) (hi1 : x4.toInt + 6 ≤ xs.length) (hi2 : x4.toInt ≤ 3066) (T : xt h) (kk : ∀ (i : Int32) (h' : xe_H), i.toInt = x4.toInt + 6 → xk [(6, 0), (123, 0), (9, 0), (124, 0)] h h' → xw J ov 100 195 (23, [(4, .int i), (3, .ref 167), (2, .ref 115), (1, .ref 0), (0, .ref 1000000)], [], h') Q) : xw J ov 100 195 (1206, [(4, .int x4), (3, .ref 167), (2, .ref 115), (1, .ref 0), (0, .ref 1000000)], [], h) Q := by
  have K : xk [(6, 0), (123, 0), (9, 0), (124, 0)] h h := xk_re T
  refine xi_aload_n (pc' := 1207) (x := 0) kc_195_1206 rfl rfl ?_
  refine xi_aload_n (pc' := 1208) (x := 1000000) kc_195_1207 rfl rfl ?_
  refine xi_iload (pc' := 1210) (x := x4) kc_195_1208 rfl rfl ?_
  refine xi_iconst (pc' := 1211) (v := 1) kc_195_1210 rfl rfl ?_
  obtain ⟨v1, ev1⟩ : ∃ q : Int32, x4 + 1 = q := ⟨_, rfl⟩
  have zv1 : v1.toInt = (x4.toInt + 1) := by rw [← ev1]; exact (xz_add (X := x4.toInt) (Y := 1) rfl (by decide) (by omega) (by omega)).trans (by omega)
  refine xi_iadd (pc' := 1212) (v := v1) kc_195_1211 rfl ev1 ?_
  obtain ⟨a2, ea2⟩ : ∃ q : Int32, xs.getD (Int32.toNatClampNeg v1) 0 = q := ⟨_, rfl⟩
  have ra2 := xc_rng a2
  refine xi_ialoadO (pc' := 1213) (v := a2) kc_195_1212 rfl (by decide) hov0 (xi_in (by omega) (by omega)) ea2 ?_
  obtain ⟨u3, u4, bu3, bu4, A5⟩ := xq_0 K.1
  refine xi_virtual (mj := 172) (as := [.int a2]) (st1 := []) (lv0 := [(0, .ref 0), (1, .int a2)]) kc_195_1213 rfl rfl rfl rfl rfl A5 (Nat.le_of_ble_eq_true rfl) (hJ _ _ _ _ (by decide)) (xm_le ml_172 rfl) rfl ?_
  refine mt_172_0 hJ hov1 hov2 (d := 79) (x1 := a2) K.1 (fun r6 hh7 K8 => ?_)
  have br6 := xc_rng r6
  have K9 := xk_tr K K8 rfl
  obtain ⟨u10, u11, bu10, bu11, A12⟩ := xq_0 K9.1
  have e13 : u4 = u11 := xk_eqi (q := 9) K8 rfl A5 A12 rfl rfl
  subst e13
  show xw J ov 100 195 (1216, [(4, .int x4), (3, .ref 167), (2, .ref 115), (1, .ref 0), (0, .ref 1000000)], [.int r6], hh7) _
  refine xi_pop (pc' := 1217) kc_195_1216 rfl rfl ?_
  refine xi_aload_n (pc' := 1218) (x := 115) kc_195_1217 rfl rfl ?_
  refine xi_aload_n (pc' := 1219) (x := 1000000) kc_195_1218 rfl rfl ?_
  refine xi_iload (pc' := 1221) (x := x4) kc_195_1219 rfl rfl ?_
  refine xi_iconst (pc' := 1222) (v := 1) kc_195_1221 rfl rfl ?_
  refine xi_iadd (pc' := 1223) (v := v1) kc_195_1222 rfl ev1 ?_
  refine xi_ialoadO (pc' := 1224) (v := a2) kc_195_1223 rfl (by decide) hov0 (xi_in (by omega) (by omega)) ea2 ?_
  obtain ⟨u14, u15, u16, u17, u18, u19, u20, u21, u22, u23, u24, u25, u26, bu14, bu15, bu16, bu17, bu18, bu19, bu20, bu21, bu22, bu23, bu24, bu25, bu26, A27⟩ := xq_115 K9.1
  refine xi_virtual (mj := 68) (as := [.int a2]) (st1 := []) (lv0 := [(0, .ref 115), (1, .int a2)]) kc_195_1224 rfl rfl rfl rfl rfl A27 (Nat.le_of_ble_eq_true rfl) (hJ _ _ _ _ (by decide)) (xm_le ml_68 rfl) rfl ?_
  refine mt_68_0 hJ hov1 hov2 (d := 97) (x1 := a2) K9.1 (fun r28 hh29 K30 => ?_)
  have br28 := xc_rng r28
  have K31 := xk_tr K9 K30 rfl
  obtain ⟨u32, u33, bu32, bu33, A34⟩ := xq_0 K31.1
  have e35 : u4 = u33 := xk_eqi (q := 9) K30 rfl A12 A34 rfl rfl
  subst e35
  obtain ⟨u36, u37, u38, u39, u40, u41, u42, u43, u44, u45, u46, u47, u48, bu36, bu37, bu38, bu39, bu40, bu41, bu42, bu43, bu44, bu45, bu46, bu47, bu48, A49⟩ := xq_115 K31.1
  have e50 : u15 = u37 := xk_eqi (q := 1) K30 rfl A27 A49 rfl rfl
  subst e50
  show xw J ov 100 195 (1227, [(4, .int x4), (3, .ref 167), (2, .ref 115), (1, .ref 0), (0, .ref 1000000)], [.int r28], hh29) _
  refine xi_pop (pc' := 1228) kc_195_1227 rfl rfl ?_
  refine xi_goto (pc' := 1501) kc_195_1228 rfl ?_
  obtain ⟨v51, ev51⟩ : ∃ q : Int32, x4 + 6 = q := ⟨_, rfl⟩
  have zv51 : v51.toInt = (x4.toInt + 6) := by rw [← ev51]; exact (xz_add (X := x4.toInt) (Y := 6) rfl (by decide) (by omega) (by omega)).trans (by omega)
  refine xi_iinc (pc' := 1504) (x := x4) (v := v51) (lv' := [(4, .int v51), (3, .ref 167), (2, .ref 115), (1, .ref 0), (0, .ref 1000000)]) kc_195_1501 rfl rfl ev51 rfl (xm_lt ml_195 rfl) ?_
  refine xi_goto (pc' := 23) kc_195_1504 rfl ?_
  exact kk v51 hh29 (by omega) K31
set_option maxHeartbeats 8000000 in
theorem lc_28 {J : xe_J} {ov : List (List Int32)} (hJ : ∀ d mj as h, mj ≠ xe_loff → J d mj as h = none) (hov1 : ov[1]? = some [10, 0, 0, 0, 0, 0]) (hov2 : ov[2]? = some [99, 30, 50, 50, 1, 99999]) {xs : List Int32} (hov0 : ov[0]? = some xs) {Q : Option Value → xe_H → Prop} {h : xe_H} {x4 : Int32} (hi0 : 0 ≤ x4.toInt) (hi1 : x4.toInt + 6 ≤ xs.length) (hi2 : x4.toInt ≤ 3066) (T : xt h) (kk : ∀ (i : Int32) (h' : xe_H), i.toInt = x4.toInt + 6 → xk [(6, 0), (123, 0), (9, 0), (124, 0)] h h' → xw J ov 100 195 (23, [(4, .int i), (3, .ref 167), (2, .ref 115), (1, .ref 0), (0, .ref 1000000)], [], h') Q) : xw J ov 100 195 (1231, [(4, .int x4), (3, .ref 167), (2, .ref 115), (1, .ref 0), (0, .ref 1000000)], [], h) Q := by
  have K : xk [(6, 0), (123, 0), (9, 0), (124, 0)] h h := xk_re T
  refine xi_aload_n (pc' := 1232) (x := 0) kc_195_1231 rfl rfl ?_
  refine xi_aload_n (pc' := 1233) (x := 1000000) kc_195_1232 rfl rfl ?_
  refine xi_iload (pc' := 1235) (x := x4) kc_195_1233 rfl rfl ?_
  refine xi_iconst (pc' := 1236) (v := 1) kc_195_1235 rfl rfl ?_
  obtain ⟨v1, ev1⟩ : ∃ q : Int32, x4 + 1 = q := ⟨_, rfl⟩
  have zv1 : v1.toInt = (x4.toInt + 1) := by rw [← ev1]; exact (xz_add (X := x4.toInt) (Y := 1) rfl (by decide) (by omega) (by omega)).trans (by omega)
  refine xi_iadd (pc' := 1237) (v := v1) kc_195_1236 rfl ev1 ?_
  obtain ⟨a2, ea2⟩ : ∃ q : Int32, xs.getD (Int32.toNatClampNeg v1) 0 = q := ⟨_, rfl⟩
  have ra2 := xc_rng a2
  refine xi_ialoadO (pc' := 1238) (v := a2) kc_195_1237 rfl (by decide) hov0 (xi_in (by omega) (by omega)) ea2 ?_
  refine xi_aload_n (pc' := 1239) (x := 1000000) kc_195_1238 rfl rfl ?_
  refine xi_iload (pc' := 1241) (x := x4) kc_195_1239 rfl rfl ?_
  refine xi_iconst (pc' := 1242) (v := 2) kc_195_1241 rfl rfl ?_
  obtain ⟨v3, ev3⟩ : ∃ q : Int32, x4 + 2 = q := ⟨_, rfl⟩
  have zv3 : v3.toInt = (x4.toInt + 2) := by rw [← ev3]; exact (xz_add (X := x4.toInt) (Y := 2) rfl (by decide) (by omega) (by omega)).trans (by omega)
  refine xi_iadd (pc' := 1243) (v := v3) kc_195_1242 rfl ev3 ?_
  obtain ⟨a4, ea4⟩ : ∃ q : Int32, xs.getD (Int32.toNatClampNeg v3) 0 = q := ⟨_, rfl⟩
  have ra4 := xc_rng a4
  refine xi_ialoadO (pc' := 1244) (v := a4) kc_195_1243 rfl (by decide) hov0 (xi_in (by omega) (by omega)) ea4 ?_
  refine xi_aload_n (pc' := 1245) (x := 1000000) kc_195_1244 rfl rfl ?_
  refine xi_iload (pc' := 1247) (x := x4) kc_195_1245 rfl rfl ?_
  refine xi_iconst (pc' := 1248) (v := 3) kc_195_1247 rfl rfl ?_
  obtain ⟨v5, ev5⟩ : ∃ q : Int32, x4 + 3 = q := ⟨_, rfl⟩
  have zv5 : v5.toInt = (x4.toInt + 3) := by rw [← ev5]; exact (xz_add (X := x4.toInt) (Y := 3) rfl (by decide) (by omega) (by omega)).trans (by omega)
  refine xi_iadd (pc' := 1249) (v := v5) kc_195_1248 rfl ev5 ?_
  obtain ⟨a6, ea6⟩ : ∃ q : Int32, xs.getD (Int32.toNatClampNeg v5) 0 = q := ⟨_, rfl⟩
  have ra6 := xc_rng a6
  refine xi_ialoadO (pc' := 1250) (v := a6) kc_195_1249 rfl (by decide) hov0 (xi_in (by omega) (by omega)) ea6 ?_
  refine xi_aload_n (pc' := 1251) (x := 1000000) kc_195_1250 rfl rfl ?_
  refine xi_iload (pc' := 1253) (x := x4) kc_195_1251 rfl rfl ?_
  refine xi_iconst (pc' := 1254) (v := 4) kc_195_1253 rfl rfl ?_
  obtain ⟨v7, ev7⟩ : ∃ q : Int32, x4 + 4 = q := ⟨_, rfl⟩
  have zv7 : v7.toInt = (x4.toInt + 4) := by rw [← ev7]; exact (xz_add (X := x4.toInt) (Y := 4) rfl (by decide) (by omega) (by omega)).trans (by omega)
  refine xi_iadd (pc' := 1255) (v := v7) kc_195_1254 rfl ev7 ?_
  obtain ⟨a8, ea8⟩ : ∃ q : Int32, xs.getD (Int32.toNatClampNeg v7) 0 = q := ⟨_, rfl⟩
  have ra8 := xc_rng a8
  refine xi_ialoadO (pc' := 1256) (v := a8) kc_195_1255 rfl (by decide) hov0 (xi_in (by omega) (by omega)) ea8 ?_
  obtain ⟨u9, u10, bu9, bu10, A11⟩ := xq_0 K.1
  refine xi_virtual (mj := 177) (as := [.int a2, .int a4, .int a6, .int a8]) (st1 := []) (lv0 := [(0, .ref 0), (1, .int a2), (2, .int a4), (3, .int a6), (4, .int a8)]) kc_195_1256 rfl rfl rfl rfl rfl A11 (Nat.le_of_ble_eq_true rfl) (hJ _ _ _ _ (by decide)) (xm_le ml_177 rfl) rfl ?_
  refine mt_177_0 hJ hov1 hov2 (d := 98) (x1 := a2) (x2 := a4) (x3 := a6) (x4 := a8) K.1 (fun r12 hh13 br12 K14 => ?_)
  have K15 := xk_tr K K14 rfl
  obtain ⟨u16, u17, bu16, bu17, A18⟩ := xq_0 K15.1
  have e19 : u10 = u17 := xk_eqi (q := 9) K14 rfl A11 A18 rfl rfl
  subst e19
  show xw J ov 100 195 (1259, [(4, .int x4), (3, .ref 167), (2, .ref 115), (1, .ref 0), (0, .ref 1000000)], [.int r12], hh13) _
  refine xi_pop (pc' := 1260) kc_195_1259 rfl rfl ?_
  refine xi_aload_n (pc' := 1261) (x := 115) kc_195_1260 rfl rfl ?_
  refine xi_aload_n (pc' := 1262) (x := 1000000) kc_195_1261 rfl rfl ?_
  refine xi_iload (pc' := 1264) (x := x4) kc_195_1262 rfl rfl ?_
  refine xi_iconst (pc' := 1265) (v := 1) kc_195_1264 rfl rfl ?_
  refine xi_iadd (pc' := 1266) (v := v1) kc_195_1265 rfl ev1 ?_
  refine xi_ialoadO (pc' := 1267) (v := a2) kc_195_1266 rfl (by decide) hov0 (xi_in (by omega) (by omega)) ea2 ?_
  refine xi_aload_n (pc' := 1268) (x := 1000000) kc_195_1267 rfl rfl ?_
  refine xi_iload (pc' := 1270) (x := x4) kc_195_1268 rfl rfl ?_
  refine xi_iconst (pc' := 1271) (v := 2) kc_195_1270 rfl rfl ?_
  refine xi_iadd (pc' := 1272) (v := v3) kc_195_1271 rfl ev3 ?_
  refine xi_ialoadO (pc' := 1273) (v := a4) kc_195_1272 rfl (by decide) hov0 (xi_in (by omega) (by omega)) ea4 ?_
  refine xi_aload_n (pc' := 1274) (x := 1000000) kc_195_1273 rfl rfl ?_
  refine xi_iload (pc' := 1276) (x := x4) kc_195_1274 rfl rfl ?_
  refine xi_iconst (pc' := 1277) (v := 3) kc_195_1276 rfl rfl ?_
  refine xi_iadd (pc' := 1278) (v := v5) kc_195_1277 rfl ev5 ?_
  refine xi_ialoadO (pc' := 1279) (v := a6) kc_195_1278 rfl (by decide) hov0 (xi_in (by omega) (by omega)) ea6 ?_
  refine xi_aload_n (pc' := 1280) (x := 1000000) kc_195_1279 rfl rfl ?_
  refine xi_iload (pc' := 1282) (x := x4) kc_195_1280 rfl rfl ?_
  refine xi_iconst (pc' := 1283) (v := 4) kc_195_1282 rfl rfl ?_
  refine xi_iadd (pc' := 1284) (v := v7) kc_195_1283 rfl ev7 ?_
  refine xi_ialoadO (pc' := 1285) (v := a8) kc_195_1284 rfl (by decide) hov0 (xi_in (by omega) (by omega)) ea8 ?_
  obtain ⟨u20, u21, u22, u23, u24, u25, u26, u27, u28, u29, u30, u31, u32, bu20, bu21, bu22, bu23, bu24, bu25, bu26, bu27, bu28, bu29, bu30, bu31, bu32, A33⟩ := xq_115 K15.1
  refine xi_virtual (mj := 70) (as := [.int a2, .int a4, .int a6, .int a8]) (st1 := []) (lv0 := [(0, .ref 115), (1, .int a2), (2, .int a4), (3, .int a6), (4, .int a8)]) kc_195_1285 rfl rfl rfl rfl rfl A33 (Nat.le_of_ble_eq_true rfl) (hJ _ _ _ _ (by decide)) (xm_le ml_70 rfl) rfl ?_
  refine mt_70_0 hJ hov1 hov2 (d := 98) (x1 := a2) (x2 := a4) (x3 := a6) (x4 := a8) K15.1 (fun r34 hh35 br34 K36 => ?_)
  have K37 := xk_tr K15 K36 rfl
  obtain ⟨u38, u39, bu38, bu39, A40⟩ := xq_0 K37.1
  have e41 : u10 = u39 := xk_eqi (q := 9) K36 rfl A18 A40 rfl rfl
  subst e41
  obtain ⟨u42, u43, u44, u45, u46, u47, u48, u49, u50, u51, u52, u53, u54, bu42, bu43, bu44, bu45, bu46, bu47, bu48, bu49, bu50, bu51, bu52, bu53, bu54, A55⟩ := xq_115 K37.1
  have e56 : u21 = u43 := xk_eqi (q := 1) K36 rfl A33 A55 rfl rfl
  subst e56
  show xw J ov 100 195 (1288, [(4, .int x4), (3, .ref 167), (2, .ref 115), (1, .ref 0), (0, .ref 1000000)], [.int r34], hh35) _
  refine xi_pop (pc' := 1289) kc_195_1288 rfl rfl ?_
  refine xi_goto (pc' := 1501) kc_195_1289 rfl ?_
  obtain ⟨v57, ev57⟩ : ∃ q : Int32, x4 + 6 = q := ⟨_, rfl⟩
  have zv57 : v57.toInt = (x4.toInt + 6) := by rw [← ev57]; exact (xz_add (X := x4.toInt) (Y := 6) rfl (by decide) (by omega) (by omega)).trans (by omega)
  refine xi_iinc (pc' := 1504) (x := x4) (v := v57) (lv' := [(4, .int v57), (3, .ref 167), (2, .ref 115), (1, .ref 0), (0, .ref 1000000)]) kc_195_1501 rfl rfl ev57 rfl (xm_lt ml_195 rfl) ?_
  refine xi_goto (pc' := 23) kc_195_1504 rfl ?_
  exact kk v57 hh35 (by omega) K37
set_option maxHeartbeats 8000000 in
theorem lc_29 {J : xe_J} {ov : List (List Int32)} (hJ : ∀ d mj as h, mj ≠ xe_loff → J d mj as h = none) (hov1 : ov[1]? = some [10, 0, 0, 0, 0, 0]) (hov2 : ov[2]? = some [99, 30, 50, 50, 1, 99999]) {xs : List Int32} (hov0 : ov[0]? = some xs) {Q : Option Value → xe_H → Prop} {h : xe_H} {x4 : Int32} (hi0 : 0 ≤ x4.toInt) (hi1 : x4.toInt + 6 ≤ xs.length) (hi2 : x4.toInt ≤ 3066) (T : xt h) (kk : ∀ (i : Int32) (h' : xe_H), i.toInt = x4.toInt + 6 → xk [(6, 0), (123, 0), (9, 0), (124, 0)] h h' → xw J ov 100 195 (23, [(4, .int i), (3, .ref 167), (2, .ref 115), (1, .ref 0), (0, .ref 1000000)], [], h') Q) : xw J ov 100 195 (1292, [(4, .int x4), (3, .ref 167), (2, .ref 115), (1, .ref 0), (0, .ref 1000000)], [], h) Q := by
  have K : xk [(6, 0), (123, 0), (9, 0), (124, 0)] h h := xk_re T
  refine xi_aload_n (pc' := 1293) (x := 0) kc_195_1292 rfl rfl ?_
  refine xi_aload_n (pc' := 1294) (x := 1000000) kc_195_1293 rfl rfl ?_
  refine xi_iload (pc' := 1296) (x := x4) kc_195_1294 rfl rfl ?_
  refine xi_iconst (pc' := 1297) (v := 1) kc_195_1296 rfl rfl ?_
  obtain ⟨v1, ev1⟩ : ∃ q : Int32, x4 + 1 = q := ⟨_, rfl⟩
  have zv1 : v1.toInt = (x4.toInt + 1) := by rw [← ev1]; exact (xz_add (X := x4.toInt) (Y := 1) rfl (by decide) (by omega) (by omega)).trans (by omega)
  refine xi_iadd (pc' := 1298) (v := v1) kc_195_1297 rfl ev1 ?_
  obtain ⟨a2, ea2⟩ : ∃ q : Int32, xs.getD (Int32.toNatClampNeg v1) 0 = q := ⟨_, rfl⟩
  have ra2 := xc_rng a2
  refine xi_ialoadO (pc' := 1299) (v := a2) kc_195_1298 rfl (by decide) hov0 (xi_in (by omega) (by omega)) ea2 ?_
  by_cases c3 : a2.toInt = 0
  · refine xi_ift (pc' := 1306) kc_195_1299 rfl (xc_eq_t (X := a2.toInt) (Y := 0) rfl (by decide) (by omega)) ?_
    refine xi_iconst (pc' := 1307) (v := 0) kc_195_1306 rfl rfl ?_
    obtain ⟨u4, u5, bu4, bu5, A6⟩ := xq_0 K.1
    refine xi_virtual (mj := 179) (as := [.int 0]) (st1 := []) (lv0 := [(0, .ref 0), (1, .int 0)]) kc_195_1307 rfl rfl rfl rfl rfl A6 (Nat.le_of_ble_eq_true rfl) (hJ _ _ _ _ (by decide)) (xm_le ml_179 rfl) rfl ?_
    have zc0 : (0 : Int32).toInt = 0 := by decide
    refine mt_179_0 hJ hov1 hov2 (d := 98) (x1 := 0) K.1 (by first | omega | decide) (fun r7 hh8 br7 K9 => ?_)
    have K10 := xk_tr K K9 rfl
    obtain ⟨u11, u12, bu11, bu12, A13⟩ := xq_0 K10.1
    have e14 : u5 = u12 := xk_eqi (q := 9) K9 rfl A6 A13 rfl rfl
    subst e14
    show xw J ov 100 195 (1310, [(4, .int x4), (3, .ref 167), (2, .ref 115), (1, .ref 0), (0, .ref 1000000)], [.int r7], hh8) _
    refine xi_pop (pc' := 1311) kc_195_1310 rfl rfl ?_
    refine xi_aload_n (pc' := 1312) (x := 115) kc_195_1311 rfl rfl ?_
    refine xi_aload_n (pc' := 1313) (x := 1000000) kc_195_1312 rfl rfl ?_
    refine xi_iload (pc' := 1315) (x := x4) kc_195_1313 rfl rfl ?_
    refine xi_iconst (pc' := 1316) (v := 1) kc_195_1315 rfl rfl ?_
    refine xi_iadd (pc' := 1317) (v := v1) kc_195_1316 rfl ev1 ?_
    refine xi_ialoadO (pc' := 1318) (v := a2) kc_195_1317 rfl (by decide) hov0 (xi_in (by omega) (by omega)) ea2 ?_
    refine xi_ift (pc' := 1325) kc_195_1318 rfl (xc_eq_t (X := a2.toInt) (Y := 0) rfl (by decide) (by omega)) ?_
    refine xi_iconst (pc' := 1326) (v := 0) kc_195_1325 rfl rfl ?_
    obtain ⟨u15, u16, u17, u18, u19, u20, u21, u22, u23, u24, u25, u26, u27, bu15, bu16, bu17, bu18, bu19, bu20, bu21, bu22, bu23, bu24, bu25, bu26, bu27, A28⟩ := xq_115 K10.1
    refine xi_virtual (mj := 71) (as := [.int 0]) (st1 := []) (lv0 := [(0, .ref 115), (1, .int 0)]) kc_195_1326 rfl rfl rfl rfl rfl A28 (Nat.le_of_ble_eq_true rfl) (hJ _ _ _ _ (by decide)) (xm_le ml_71 rfl) rfl ?_
    have zc0 : (0 : Int32).toInt = 0 := by decide
    refine mt_71_0 hJ hov1 hov2 (d := 98) (x1 := 0) K10.1 (by first | omega | decide) (fun r29 hh30 br29 K31 => ?_)
    have K32 := xk_tr K10 K31 rfl
    obtain ⟨u33, u34, bu33, bu34, A35⟩ := xq_0 K32.1
    have e36 : u5 = u34 := xk_eqi (q := 9) K31 rfl A13 A35 rfl rfl
    subst e36
    obtain ⟨u37, u38, u39, u40, u41, u42, u43, u44, u45, u46, u47, u48, u49, bu37, bu38, bu39, bu40, bu41, bu42, bu43, bu44, bu45, bu46, bu47, bu48, bu49, A50⟩ := xq_115 K32.1
    have e51 : u16 = u38 := xk_eqi (q := 1) K31 rfl A28 A50 rfl rfl
    subst e51
    show xw J ov 100 195 (1329, [(4, .int x4), (3, .ref 167), (2, .ref 115), (1, .ref 0), (0, .ref 1000000)], [.int r29], hh30) _
    refine xi_pop (pc' := 1330) kc_195_1329 rfl rfl ?_
    refine xi_goto (pc' := 1501) kc_195_1330 rfl ?_
    obtain ⟨v52, ev52⟩ : ∃ q : Int32, x4 + 6 = q := ⟨_, rfl⟩
    have zv52 : v52.toInt = (x4.toInt + 6) := by rw [← ev52]; exact (xz_add (X := x4.toInt) (Y := 6) rfl (by decide) (by omega) (by omega)).trans (by omega)
    refine xi_iinc (pc' := 1504) (x := x4) (v := v52) (lv' := [(4, .int v52), (3, .ref 167), (2, .ref 115), (1, .ref 0), (0, .ref 1000000)]) kc_195_1501 rfl rfl ev52 rfl (xm_lt ml_195 rfl) ?_
    refine xi_goto (pc' := 23) kc_195_1504 rfl ?_
    exact kk v52 hh30 (by omega) K32
  · refine xi_iff (pc' := 1302) kc_195_1299 rfl (xc_eq_f (X := a2.toInt) (Y := 0) rfl (by decide) (by omega)) ?_
    refine xi_iconst (pc' := 1303) (v := 1) kc_195_1302 rfl rfl ?_
    refine xi_goto (pc' := 1307) kc_195_1303 rfl ?_
    obtain ⟨u53, u54, bu53, bu54, A55⟩ := xq_0 K.1
    refine xi_virtual (mj := 179) (as := [.int 1]) (st1 := []) (lv0 := [(0, .ref 0), (1, .int 1)]) kc_195_1307 rfl rfl rfl rfl rfl A55 (Nat.le_of_ble_eq_true rfl) (hJ _ _ _ _ (by decide)) (xm_le ml_179 rfl) rfl ?_
    have zc1 : (1 : Int32).toInt = 1 := by decide
    refine mt_179_0 hJ hov1 hov2 (d := 98) (x1 := 1) K.1 (by first | omega | decide) (fun r56 hh57 br56 K58 => ?_)
    have K59 := xk_tr K K58 rfl
    obtain ⟨u60, u61, bu60, bu61, A62⟩ := xq_0 K59.1
    have e63 : u54 = u61 := xk_eqi (q := 9) K58 rfl A55 A62 rfl rfl
    subst e63
    show xw J ov 100 195 (1310, [(4, .int x4), (3, .ref 167), (2, .ref 115), (1, .ref 0), (0, .ref 1000000)], [.int r56], hh57) _
    refine xi_pop (pc' := 1311) kc_195_1310 rfl rfl ?_
    refine xi_aload_n (pc' := 1312) (x := 115) kc_195_1311 rfl rfl ?_
    refine xi_aload_n (pc' := 1313) (x := 1000000) kc_195_1312 rfl rfl ?_
    refine xi_iload (pc' := 1315) (x := x4) kc_195_1313 rfl rfl ?_
    refine xi_iconst (pc' := 1316) (v := 1) kc_195_1315 rfl rfl ?_
    refine xi_iadd (pc' := 1317) (v := v1) kc_195_1316 rfl ev1 ?_
    refine xi_ialoadO (pc' := 1318) (v := a2) kc_195_1317 rfl (by decide) hov0 (xi_in (by omega) (by omega)) ea2 ?_
    refine xi_iff (pc' := 1321) kc_195_1318 rfl (xc_eq_f (X := a2.toInt) (Y := 0) rfl (by decide) (by omega)) ?_
    refine xi_iconst (pc' := 1322) (v := 1) kc_195_1321 rfl rfl ?_
    refine xi_goto (pc' := 1326) kc_195_1322 rfl ?_
    obtain ⟨u64, u65, u66, u67, u68, u69, u70, u71, u72, u73, u74, u75, u76, bu64, bu65, bu66, bu67, bu68, bu69, bu70, bu71, bu72, bu73, bu74, bu75, bu76, A77⟩ := xq_115 K59.1
    refine xi_virtual (mj := 71) (as := [.int 1]) (st1 := []) (lv0 := [(0, .ref 115), (1, .int 1)]) kc_195_1326 rfl rfl rfl rfl rfl A77 (Nat.le_of_ble_eq_true rfl) (hJ _ _ _ _ (by decide)) (xm_le ml_71 rfl) rfl ?_
    have zc1 : (1 : Int32).toInt = 1 := by decide
    refine mt_71_0 hJ hov1 hov2 (d := 98) (x1 := 1) K59.1 (by first | omega | decide) (fun r78 hh79 br78 K80 => ?_)
    have K81 := xk_tr K59 K80 rfl
    obtain ⟨u82, u83, bu82, bu83, A84⟩ := xq_0 K81.1
    have e85 : u54 = u83 := xk_eqi (q := 9) K80 rfl A62 A84 rfl rfl
    subst e85
    obtain ⟨u86, u87, u88, u89, u90, u91, u92, u93, u94, u95, u96, u97, u98, bu86, bu87, bu88, bu89, bu90, bu91, bu92, bu93, bu94, bu95, bu96, bu97, bu98, A99⟩ := xq_115 K81.1
    have e100 : u65 = u87 := xk_eqi (q := 1) K80 rfl A77 A99 rfl rfl
    subst e100
    show xw J ov 100 195 (1329, [(4, .int x4), (3, .ref 167), (2, .ref 115), (1, .ref 0), (0, .ref 1000000)], [.int r78], hh79) _
    refine xi_pop (pc' := 1330) kc_195_1329 rfl rfl ?_
    refine xi_goto (pc' := 1501) kc_195_1330 rfl ?_
    obtain ⟨v101, ev101⟩ : ∃ q : Int32, x4 + 6 = q := ⟨_, rfl⟩
    have zv101 : v101.toInt = (x4.toInt + 6) := by rw [← ev101]; exact (xz_add (X := x4.toInt) (Y := 6) rfl (by decide) (by omega) (by omega)).trans (by omega)
    refine xi_iinc (pc' := 1504) (x := x4) (v := v101) (lv' := [(4, .int v101), (3, .ref 167), (2, .ref 115), (1, .ref 0), (0, .ref 1000000)]) kc_195_1501 rfl rfl ev101 rfl (xm_lt ml_195 rfl) ?_
    refine xi_goto (pc' := 23) kc_195_1504 rfl ?_
    exact kk v101 hh79 (by omega) K81
set_option maxHeartbeats 8000000 in
theorem lc_30 {J : xe_J} {ov : List (List Int32)} (hJ : ∀ d mj as h, mj ≠ xe_loff → J d mj as h = none) (hov1 : ov[1]? = some [10, 0, 0, 0, 0, 0]) (hov2 : ov[2]? = some [99, 30, 50, 50, 1, 99999]) {xs : List Int32} (hov0 : ov[0]? = some xs) {Q : Option Value → xe_H → Prop} {h : xe_H} {x4 : Int32} (hi0 : 0 ≤ x4.toInt) (hi1 : x4.toInt + 6 ≤ xs.length) (hi2 : x4.toInt ≤ 3066) (T : xt h) (kk : ∀ (i : Int32) (h' : xe_H), i.toInt = x4.toInt + 6 → xk [(6, 0), (123, 0), (9, 0), (124, 0)] h h' → xw J ov 100 195 (23, [(4, .int i), (3, .ref 167), (2, .ref 115), (1, .ref 0), (0, .ref 1000000)], [], h') Q) : xw J ov 100 195 (1333, [(4, .int x4), (3, .ref 167), (2, .ref 115), (1, .ref 0), (0, .ref 1000000)], [], h) Q := by
  have K : xk [(6, 0), (123, 0), (9, 0), (124, 0)] h h := xk_re T
  refine xi_aload_n (pc' := 1334) (x := 0) kc_195_1333 rfl rfl ?_
  refine xi_aload_n (pc' := 1335) (x := 1000000) kc_195_1334 rfl rfl ?_
  refine xi_iload (pc' := 1337) (x := x4) kc_195_1335 rfl rfl ?_
  refine xi_iconst (pc' := 1338) (v := 1) kc_195_1337 rfl rfl ?_
  obtain ⟨v1, ev1⟩ : ∃ q : Int32, x4 + 1 = q := ⟨_, rfl⟩
  have zv1 : v1.toInt = (x4.toInt + 1) := by rw [← ev1]; exact (xz_add (X := x4.toInt) (Y := 1) rfl (by decide) (by omega) (by omega)).trans (by omega)
  refine xi_iadd (pc' := 1339) (v := v1) kc_195_1338 rfl ev1 ?_
  obtain ⟨a2, ea2⟩ : ∃ q : Int32, xs.getD (Int32.toNatClampNeg v1) 0 = q := ⟨_, rfl⟩
  have ra2 := xc_rng a2
  refine xi_ialoadO (pc' := 1340) (v := a2) kc_195_1339 rfl (by decide) hov0 (xi_in (by omega) (by omega)) ea2 ?_
  by_cases c3 : a2.toInt = 0
  · refine xi_ift (pc' := 1347) kc_195_1340 rfl (xc_eq_t (X := a2.toInt) (Y := 0) rfl (by decide) (by omega)) ?_
    refine xi_iconst (pc' := 1348) (v := 0) kc_195_1347 rfl rfl ?_
    refine xi_aload_n (pc' := 1349) (x := 1000000) kc_195_1348 rfl rfl ?_
    refine xi_iload (pc' := 1351) (x := x4) kc_195_1349 rfl rfl ?_
    refine xi_iconst (pc' := 1352) (v := 2) kc_195_1351 rfl rfl ?_
    obtain ⟨v4, ev4⟩ : ∃ q : Int32, x4 + 2 = q := ⟨_, rfl⟩
    have zv4 : v4.toInt = (x4.toInt + 2) := by rw [← ev4]; exact (xz_add (X := x4.toInt) (Y := 2) rfl (by decide) (by omega) (by omega)).trans (by omega)
    refine xi_iadd (pc' := 1353) (v := v4) kc_195_1352 rfl ev4 ?_
    obtain ⟨a5, ea5⟩ : ∃ q : Int32, xs.getD (Int32.toNatClampNeg v4) 0 = q := ⟨_, rfl⟩
    have ra5 := xc_rng a5
    refine xi_ialoadO (pc' := 1354) (v := a5) kc_195_1353 rfl (by decide) hov0 (xi_in (by omega) (by omega)) ea5 ?_
    refine xi_aload_n (pc' := 1355) (x := 1000000) kc_195_1354 rfl rfl ?_
    refine xi_iload (pc' := 1357) (x := x4) kc_195_1355 rfl rfl ?_
    refine xi_iconst (pc' := 1358) (v := 3) kc_195_1357 rfl rfl ?_
    obtain ⟨v6, ev6⟩ : ∃ q : Int32, x4 + 3 = q := ⟨_, rfl⟩
    have zv6 : v6.toInt = (x4.toInt + 3) := by rw [← ev6]; exact (xz_add (X := x4.toInt) (Y := 3) rfl (by decide) (by omega) (by omega)).trans (by omega)
    refine xi_iadd (pc' := 1359) (v := v6) kc_195_1358 rfl ev6 ?_
    obtain ⟨a7, ea7⟩ : ∃ q : Int32, xs.getD (Int32.toNatClampNeg v6) 0 = q := ⟨_, rfl⟩
    have ra7 := xc_rng a7
    refine xi_ialoadO (pc' := 1360) (v := a7) kc_195_1359 rfl (by decide) hov0 (xi_in (by omega) (by omega)) ea7 ?_
    by_cases c8 : a7.toInt = 0
    · refine xi_ift (pc' := 1367) kc_195_1360 rfl (xc_eq_t (X := a7.toInt) (Y := 0) rfl (by decide) (by omega)) ?_
      refine xi_iconst (pc' := 1368) (v := 0) kc_195_1367 rfl rfl ?_
      obtain ⟨u9, u10, bu9, bu10, A11⟩ := xq_0 K.1
      refine xi_virtual (mj := 180) (as := [.int 0, .int a5, .int 0]) (st1 := []) (lv0 := [(0, .ref 0), (1, .int 0), (2, .int a5), (3, .int 0)]) kc_195_1368 rfl rfl rfl rfl rfl A11 (Nat.le_of_ble_eq_true rfl) (hJ _ _ _ _ (by decide)) (xm_le ml_180 rfl) rfl ?_
      have zc0 : (0 : Int32).toInt = 0 := by decide
      refine mt_180_0 hJ hov1 hov2 (d := 97) (x1 := 0) (x2 := a5) (x3 := 0) K.1 (by first | omega | decide) (by first | omega | decide) (fun r12 hh13 br12 K14 => ?_)
      have K15 := xk_tr K K14 rfl
      obtain ⟨u16, u17, bu16, bu17, A18⟩ := xq_0 K15.1
      have e19 : u10 = u17 := xk_eqi (q := 9) K14 rfl A11 A18 rfl rfl
      subst e19
      show xw J ov 100 195 (1371, [(4, .int x4), (3, .ref 167), (2, .ref 115), (1, .ref 0), (0, .ref 1000000)], [.int r12], hh13) _
      refine xi_pop (pc' := 1372) kc_195_1371 rfl rfl ?_
      refine xi_aload_n (pc' := 1373) (x := 115) kc_195_1372 rfl rfl ?_
      refine xi_aload_n (pc' := 1374) (x := 1000000) kc_195_1373 rfl rfl ?_
      refine xi_iload (pc' := 1376) (x := x4) kc_195_1374 rfl rfl ?_
      refine xi_iconst (pc' := 1377) (v := 1) kc_195_1376 rfl rfl ?_
      refine xi_iadd (pc' := 1378) (v := v1) kc_195_1377 rfl ev1 ?_
      refine xi_ialoadO (pc' := 1379) (v := a2) kc_195_1378 rfl (by decide) hov0 (xi_in (by omega) (by omega)) ea2 ?_
      refine xi_ift (pc' := 1386) kc_195_1379 rfl (xc_eq_t (X := a2.toInt) (Y := 0) rfl (by decide) (by omega)) ?_
      refine xi_iconst (pc' := 1387) (v := 0) kc_195_1386 rfl rfl ?_
      refine xi_aload_n (pc' := 1388) (x := 1000000) kc_195_1387 rfl rfl ?_
      refine xi_iload (pc' := 1390) (x := x4) kc_195_1388 rfl rfl ?_
      refine xi_iconst (pc' := 1391) (v := 2) kc_195_1390 rfl rfl ?_
      refine xi_iadd (pc' := 1392) (v := v4) kc_195_1391 rfl ev4 ?_
      refine xi_ialoadO (pc' := 1393) (v := a5) kc_195_1392 rfl (by decide) hov0 (xi_in (by omega) (by omega)) ea5 ?_
      refine xi_aload_n (pc' := 1394) (x := 1000000) kc_195_1393 rfl rfl ?_
      refine xi_iload (pc' := 1396) (x := x4) kc_195_1394 rfl rfl ?_
      refine xi_iconst (pc' := 1397) (v := 3) kc_195_1396 rfl rfl ?_
      refine xi_iadd (pc' := 1398) (v := v6) kc_195_1397 rfl ev6 ?_
      refine xi_ialoadO (pc' := 1399) (v := a7) kc_195_1398 rfl (by decide) hov0 (xi_in (by omega) (by omega)) ea7 ?_
      refine xi_ift (pc' := 1406) kc_195_1399 rfl (xc_eq_t (X := a7.toInt) (Y := 0) rfl (by decide) (by omega)) ?_
      refine xi_iconst (pc' := 1407) (v := 0) kc_195_1406 rfl rfl ?_
      obtain ⟨u20, u21, u22, u23, u24, u25, u26, u27, u28, u29, u30, u31, u32, bu20, bu21, bu22, bu23, bu24, bu25, bu26, bu27, bu28, bu29, bu30, bu31, bu32, A33⟩ := xq_115 K15.1
      refine xi_virtual (mj := 72) (as := [.int 0, .int a5, .int 0]) (st1 := []) (lv0 := [(0, .ref 115), (1, .int 0), (2, .int a5), (3, .int 0)]) kc_195_1407 rfl rfl rfl rfl rfl A33 (Nat.le_of_ble_eq_true rfl) (hJ _ _ _ _ (by decide)) (xm_le ml_72 rfl) rfl ?_
      have zc0 : (0 : Int32).toInt = 0 := by decide
      refine mt_72_0 hJ hov1 hov2 (d := 98) (x1 := 0) (x2 := a5) (x3 := 0) K15.1 (by first | omega | decide) (by first | omega | decide) (fun r34 hh35 br34 K36 => ?_)
      have K37 := xk_tr K15 K36 rfl
      obtain ⟨u38, u39, bu38, bu39, A40⟩ := xq_0 K37.1
      have e41 : u10 = u39 := xk_eqi (q := 9) K36 rfl A18 A40 rfl rfl
      subst e41
      obtain ⟨u42, u43, u44, u45, u46, u47, u48, u49, u50, u51, u52, u53, u54, bu42, bu43, bu44, bu45, bu46, bu47, bu48, bu49, bu50, bu51, bu52, bu53, bu54, A55⟩ := xq_115 K37.1
      have e56 : u21 = u43 := xk_eqi (q := 1) K36 rfl A33 A55 rfl rfl
      subst e56
      show xw J ov 100 195 (1410, [(4, .int x4), (3, .ref 167), (2, .ref 115), (1, .ref 0), (0, .ref 1000000)], [.int r34], hh35) _
      refine xi_pop (pc' := 1411) kc_195_1410 rfl rfl ?_
      refine xi_goto (pc' := 1501) kc_195_1411 rfl ?_
      obtain ⟨v57, ev57⟩ : ∃ q : Int32, x4 + 6 = q := ⟨_, rfl⟩
      have zv57 : v57.toInt = (x4.toInt + 6) := by rw [← ev57]; exact (xz_add (X := x4.toInt) (Y := 6) rfl (by decide) (by omega) (by omega)).trans (by omega)
      refine xi_iinc (pc' := 1504) (x := x4) (v := v57) (lv' := [(4, .int v57), (3, .ref 167), (2, .ref 115), (1, .ref 0), (0, .ref 1000000)]) kc_195_1501 rfl rfl ev57 rfl (xm_lt ml_195 rfl) ?_
      refine xi_goto (pc' := 23) kc_195_1504 rfl ?_
      exact kk v57 hh35 (by omega) K37
    · refine xi_iff (pc' := 1363) kc_195_1360 rfl (xc_eq_f (X := a7.toInt) (Y := 0) rfl (by decide) (by omega)) ?_
      refine xi_iconst (pc' := 1364) (v := 1) kc_195_1363 rfl rfl ?_
      refine xi_goto (pc' := 1368) kc_195_1364 rfl ?_
      obtain ⟨u58, u59, bu58, bu59, A60⟩ := xq_0 K.1
      refine xi_virtual (mj := 180) (as := [.int 0, .int a5, .int 1]) (st1 := []) (lv0 := [(0, .ref 0), (1, .int 0), (2, .int a5), (3, .int 1)]) kc_195_1368 rfl rfl rfl rfl rfl A60 (Nat.le_of_ble_eq_true rfl) (hJ _ _ _ _ (by decide)) (xm_le ml_180 rfl) rfl ?_
      have zc0 : (0 : Int32).toInt = 0 := by decide
      have zc1 : (1 : Int32).toInt = 1 := by decide
      refine mt_180_0 hJ hov1 hov2 (d := 97) (x1 := 0) (x2 := a5) (x3 := 1) K.1 (by first | omega | decide) (by first | omega | decide) (fun r61 hh62 br61 K63 => ?_)
      have K64 := xk_tr K K63 rfl
      obtain ⟨u65, u66, bu65, bu66, A67⟩ := xq_0 K64.1
      have e68 : u59 = u66 := xk_eqi (q := 9) K63 rfl A60 A67 rfl rfl
      subst e68
      show xw J ov 100 195 (1371, [(4, .int x4), (3, .ref 167), (2, .ref 115), (1, .ref 0), (0, .ref 1000000)], [.int r61], hh62) _
      refine xi_pop (pc' := 1372) kc_195_1371 rfl rfl ?_
      refine xi_aload_n (pc' := 1373) (x := 115) kc_195_1372 rfl rfl ?_
      refine xi_aload_n (pc' := 1374) (x := 1000000) kc_195_1373 rfl rfl ?_
      refine xi_iload (pc' := 1376) (x := x4) kc_195_1374 rfl rfl ?_
      refine xi_iconst (pc' := 1377) (v := 1) kc_195_1376 rfl rfl ?_
      refine xi_iadd (pc' := 1378) (v := v1) kc_195_1377 rfl ev1 ?_
      refine xi_ialoadO (pc' := 1379) (v := a2) kc_195_1378 rfl (by decide) hov0 (xi_in (by omega) (by omega)) ea2 ?_
      refine xi_ift (pc' := 1386) kc_195_1379 rfl (xc_eq_t (X := a2.toInt) (Y := 0) rfl (by decide) (by omega)) ?_
      refine xi_iconst (pc' := 1387) (v := 0) kc_195_1386 rfl rfl ?_
      refine xi_aload_n (pc' := 1388) (x := 1000000) kc_195_1387 rfl rfl ?_
      refine xi_iload (pc' := 1390) (x := x4) kc_195_1388 rfl rfl ?_
      refine xi_iconst (pc' := 1391) (v := 2) kc_195_1390 rfl rfl ?_
      refine xi_iadd (pc' := 1392) (v := v4) kc_195_1391 rfl ev4 ?_
      refine xi_ialoadO (pc' := 1393) (v := a5) kc_195_1392 rfl (by decide) hov0 (xi_in (by omega) (by omega)) ea5 ?_
      refine xi_aload_n (pc' := 1394) (x := 1000000) kc_195_1393 rfl rfl ?_
      refine xi_iload (pc' := 1396) (x := x4) kc_195_1394 rfl rfl ?_
      refine xi_iconst (pc' := 1397) (v := 3) kc_195_1396 rfl rfl ?_
      refine xi_iadd (pc' := 1398) (v := v6) kc_195_1397 rfl ev6 ?_
      refine xi_ialoadO (pc' := 1399) (v := a7) kc_195_1398 rfl (by decide) hov0 (xi_in (by omega) (by omega)) ea7 ?_
      refine xi_iff (pc' := 1402) kc_195_1399 rfl (xc_eq_f (X := a7.toInt) (Y := 0) rfl (by decide) (by omega)) ?_
      refine xi_iconst (pc' := 1403) (v := 1) kc_195_1402 rfl rfl ?_
      refine xi_goto (pc' := 1407) kc_195_1403 rfl ?_
      obtain ⟨u69, u70, u71, u72, u73, u74, u75, u76, u77, u78, u79, u80, u81, bu69, bu70, bu71, bu72, bu73, bu74, bu75, bu76, bu77, bu78, bu79, bu80, bu81, A82⟩ := xq_115 K64.1
      refine xi_virtual (mj := 72) (as := [.int 0, .int a5, .int 1]) (st1 := []) (lv0 := [(0, .ref 115), (1, .int 0), (2, .int a5), (3, .int 1)]) kc_195_1407 rfl rfl rfl rfl rfl A82 (Nat.le_of_ble_eq_true rfl) (hJ _ _ _ _ (by decide)) (xm_le ml_72 rfl) rfl ?_
      have zc0 : (0 : Int32).toInt = 0 := by decide
      have zc1 : (1 : Int32).toInt = 1 := by decide
      refine mt_72_0 hJ hov1 hov2 (d := 98) (x1 := 0) (x2 := a5) (x3 := 1) K64.1 (by first | omega | decide) (by first | omega | decide) (fun r83 hh84 br83 K85 => ?_)
      have K86 := xk_tr K64 K85 rfl
      obtain ⟨u87, u88, bu87, bu88, A89⟩ := xq_0 K86.1
      have e90 : u59 = u88 := xk_eqi (q := 9) K85 rfl A67 A89 rfl rfl
      subst e90
      obtain ⟨u91, u92, u93, u94, u95, u96, u97, u98, u99, u100, u101, u102, u103, bu91, bu92, bu93, bu94, bu95, bu96, bu97, bu98, bu99, bu100, bu101, bu102, bu103, A104⟩ := xq_115 K86.1
      have e105 : u70 = u92 := xk_eqi (q := 1) K85 rfl A82 A104 rfl rfl
      subst e105
      show xw J ov 100 195 (1410, [(4, .int x4), (3, .ref 167), (2, .ref 115), (1, .ref 0), (0, .ref 1000000)], [.int r83], hh84) _
      refine xi_pop (pc' := 1411) kc_195_1410 rfl rfl ?_
      refine xi_goto (pc' := 1501) kc_195_1411 rfl ?_
      obtain ⟨v106, ev106⟩ : ∃ q : Int32, x4 + 6 = q := ⟨_, rfl⟩
      have zv106 : v106.toInt = (x4.toInt + 6) := by rw [← ev106]; exact (xz_add (X := x4.toInt) (Y := 6) rfl (by decide) (by omega) (by omega)).trans (by omega)
      refine xi_iinc (pc' := 1504) (x := x4) (v := v106) (lv' := [(4, .int v106), (3, .ref 167), (2, .ref 115), (1, .ref 0), (0, .ref 1000000)]) kc_195_1501 rfl rfl ev106 rfl (xm_lt ml_195 rfl) ?_
      refine xi_goto (pc' := 23) kc_195_1504 rfl ?_
      exact kk v106 hh84 (by omega) K86
  · refine xi_iff (pc' := 1343) kc_195_1340 rfl (xc_eq_f (X := a2.toInt) (Y := 0) rfl (by decide) (by omega)) ?_
    refine xi_iconst (pc' := 1344) (v := 1) kc_195_1343 rfl rfl ?_
    refine xi_goto (pc' := 1348) kc_195_1344 rfl ?_
    refine xi_aload_n (pc' := 1349) (x := 1000000) kc_195_1348 rfl rfl ?_
    refine xi_iload (pc' := 1351) (x := x4) kc_195_1349 rfl rfl ?_
    refine xi_iconst (pc' := 1352) (v := 2) kc_195_1351 rfl rfl ?_
    obtain ⟨v107, ev107⟩ : ∃ q : Int32, x4 + 2 = q := ⟨_, rfl⟩
    have zv107 : v107.toInt = (x4.toInt + 2) := by rw [← ev107]; exact (xz_add (X := x4.toInt) (Y := 2) rfl (by decide) (by omega) (by omega)).trans (by omega)
    refine xi_iadd (pc' := 1353) (v := v107) kc_195_1352 rfl ev107 ?_
    obtain ⟨a108, ea108⟩ : ∃ q : Int32, xs.getD (Int32.toNatClampNeg v107) 0 = q := ⟨_, rfl⟩
    have ra108 := xc_rng a108
    refine xi_ialoadO (pc' := 1354) (v := a108) kc_195_1353 rfl (by decide) hov0 (xi_in (by omega) (by omega)) ea108 ?_
    refine xi_aload_n (pc' := 1355) (x := 1000000) kc_195_1354 rfl rfl ?_
    refine xi_iload (pc' := 1357) (x := x4) kc_195_1355 rfl rfl ?_
    refine xi_iconst (pc' := 1358) (v := 3) kc_195_1357 rfl rfl ?_
    obtain ⟨v109, ev109⟩ : ∃ q : Int32, x4 + 3 = q := ⟨_, rfl⟩
    have zv109 : v109.toInt = (x4.toInt + 3) := by rw [← ev109]; exact (xz_add (X := x4.toInt) (Y := 3) rfl (by decide) (by omega) (by omega)).trans (by omega)
    refine xi_iadd (pc' := 1359) (v := v109) kc_195_1358 rfl ev109 ?_
    obtain ⟨a110, ea110⟩ : ∃ q : Int32, xs.getD (Int32.toNatClampNeg v109) 0 = q := ⟨_, rfl⟩
    have ra110 := xc_rng a110
    refine xi_ialoadO (pc' := 1360) (v := a110) kc_195_1359 rfl (by decide) hov0 (xi_in (by omega) (by omega)) ea110 ?_
    by_cases c111 : a110.toInt = 0
    · refine xi_ift (pc' := 1367) kc_195_1360 rfl (xc_eq_t (X := a110.toInt) (Y := 0) rfl (by decide) (by omega)) ?_
      refine xi_iconst (pc' := 1368) (v := 0) kc_195_1367 rfl rfl ?_
      obtain ⟨u112, u113, bu112, bu113, A114⟩ := xq_0 K.1
      refine xi_virtual (mj := 180) (as := [.int 1, .int a108, .int 0]) (st1 := []) (lv0 := [(0, .ref 0), (1, .int 1), (2, .int a108), (3, .int 0)]) kc_195_1368 rfl rfl rfl rfl rfl A114 (Nat.le_of_ble_eq_true rfl) (hJ _ _ _ _ (by decide)) (xm_le ml_180 rfl) rfl ?_
      have zc0 : (0 : Int32).toInt = 0 := by decide
      have zc1 : (1 : Int32).toInt = 1 := by decide
      refine mt_180_0 hJ hov1 hov2 (d := 97) (x1 := 1) (x2 := a108) (x3 := 0) K.1 (by first | omega | decide) (by first | omega | decide) (fun r115 hh116 br115 K117 => ?_)
      have K118 := xk_tr K K117 rfl
      obtain ⟨u119, u120, bu119, bu120, A121⟩ := xq_0 K118.1
      have e122 : u113 = u120 := xk_eqi (q := 9) K117 rfl A114 A121 rfl rfl
      subst e122
      show xw J ov 100 195 (1371, [(4, .int x4), (3, .ref 167), (2, .ref 115), (1, .ref 0), (0, .ref 1000000)], [.int r115], hh116) _
      refine xi_pop (pc' := 1372) kc_195_1371 rfl rfl ?_
      refine xi_aload_n (pc' := 1373) (x := 115) kc_195_1372 rfl rfl ?_
      refine xi_aload_n (pc' := 1374) (x := 1000000) kc_195_1373 rfl rfl ?_
      refine xi_iload (pc' := 1376) (x := x4) kc_195_1374 rfl rfl ?_
      refine xi_iconst (pc' := 1377) (v := 1) kc_195_1376 rfl rfl ?_
      refine xi_iadd (pc' := 1378) (v := v1) kc_195_1377 rfl ev1 ?_
      refine xi_ialoadO (pc' := 1379) (v := a2) kc_195_1378 rfl (by decide) hov0 (xi_in (by omega) (by omega)) ea2 ?_
      refine xi_iff (pc' := 1382) kc_195_1379 rfl (xc_eq_f (X := a2.toInt) (Y := 0) rfl (by decide) (by omega)) ?_
      refine xi_iconst (pc' := 1383) (v := 1) kc_195_1382 rfl rfl ?_
      refine xi_goto (pc' := 1387) kc_195_1383 rfl ?_
      refine xi_aload_n (pc' := 1388) (x := 1000000) kc_195_1387 rfl rfl ?_
      refine xi_iload (pc' := 1390) (x := x4) kc_195_1388 rfl rfl ?_
      refine xi_iconst (pc' := 1391) (v := 2) kc_195_1390 rfl rfl ?_
      refine xi_iadd (pc' := 1392) (v := v107) kc_195_1391 rfl ev107 ?_
      refine xi_ialoadO (pc' := 1393) (v := a108) kc_195_1392 rfl (by decide) hov0 (xi_in (by omega) (by omega)) ea108 ?_
      refine xi_aload_n (pc' := 1394) (x := 1000000) kc_195_1393 rfl rfl ?_
      refine xi_iload (pc' := 1396) (x := x4) kc_195_1394 rfl rfl ?_
      refine xi_iconst (pc' := 1397) (v := 3) kc_195_1396 rfl rfl ?_
      refine xi_iadd (pc' := 1398) (v := v109) kc_195_1397 rfl ev109 ?_
      refine xi_ialoadO (pc' := 1399) (v := a110) kc_195_1398 rfl (by decide) hov0 (xi_in (by omega) (by omega)) ea110 ?_
      refine xi_ift (pc' := 1406) kc_195_1399 rfl (xc_eq_t (X := a110.toInt) (Y := 0) rfl (by decide) (by omega)) ?_
      refine xi_iconst (pc' := 1407) (v := 0) kc_195_1406 rfl rfl ?_
      obtain ⟨u123, u124, u125, u126, u127, u128, u129, u130, u131, u132, u133, u134, u135, bu123, bu124, bu125, bu126, bu127, bu128, bu129, bu130, bu131, bu132, bu133, bu134, bu135, A136⟩ := xq_115 K118.1
      refine xi_virtual (mj := 72) (as := [.int 1, .int a108, .int 0]) (st1 := []) (lv0 := [(0, .ref 115), (1, .int 1), (2, .int a108), (3, .int 0)]) kc_195_1407 rfl rfl rfl rfl rfl A136 (Nat.le_of_ble_eq_true rfl) (hJ _ _ _ _ (by decide)) (xm_le ml_72 rfl) rfl ?_
      have zc0 : (0 : Int32).toInt = 0 := by decide
      have zc1 : (1 : Int32).toInt = 1 := by decide
      refine mt_72_0 hJ hov1 hov2 (d := 98) (x1 := 1) (x2 := a108) (x3 := 0) K118.1 (by first | omega | decide) (by first | omega | decide) (fun r137 hh138 br137 K139 => ?_)
      have K140 := xk_tr K118 K139 rfl
      obtain ⟨u141, u142, bu141, bu142, A143⟩ := xq_0 K140.1
      have e144 : u113 = u142 := xk_eqi (q := 9) K139 rfl A121 A143 rfl rfl
      subst e144
      obtain ⟨u145, u146, u147, u148, u149, u150, u151, u152, u153, u154, u155, u156, u157, bu145, bu146, bu147, bu148, bu149, bu150, bu151, bu152, bu153, bu154, bu155, bu156, bu157, A158⟩ := xq_115 K140.1
      have e159 : u124 = u146 := xk_eqi (q := 1) K139 rfl A136 A158 rfl rfl
      subst e159
      show xw J ov 100 195 (1410, [(4, .int x4), (3, .ref 167), (2, .ref 115), (1, .ref 0), (0, .ref 1000000)], [.int r137], hh138) _
      refine xi_pop (pc' := 1411) kc_195_1410 rfl rfl ?_
      refine xi_goto (pc' := 1501) kc_195_1411 rfl ?_
      obtain ⟨v160, ev160⟩ : ∃ q : Int32, x4 + 6 = q := ⟨_, rfl⟩
      have zv160 : v160.toInt = (x4.toInt + 6) := by rw [← ev160]; exact (xz_add (X := x4.toInt) (Y := 6) rfl (by decide) (by omega) (by omega)).trans (by omega)
      refine xi_iinc (pc' := 1504) (x := x4) (v := v160) (lv' := [(4, .int v160), (3, .ref 167), (2, .ref 115), (1, .ref 0), (0, .ref 1000000)]) kc_195_1501 rfl rfl ev160 rfl (xm_lt ml_195 rfl) ?_
      refine xi_goto (pc' := 23) kc_195_1504 rfl ?_
      exact kk v160 hh138 (by omega) K140
    · refine xi_iff (pc' := 1363) kc_195_1360 rfl (xc_eq_f (X := a110.toInt) (Y := 0) rfl (by decide) (by omega)) ?_
      refine xi_iconst (pc' := 1364) (v := 1) kc_195_1363 rfl rfl ?_
      refine xi_goto (pc' := 1368) kc_195_1364 rfl ?_
      obtain ⟨u161, u162, bu161, bu162, A163⟩ := xq_0 K.1
      refine xi_virtual (mj := 180) (as := [.int 1, .int a108, .int 1]) (st1 := []) (lv0 := [(0, .ref 0), (1, .int 1), (2, .int a108), (3, .int 1)]) kc_195_1368 rfl rfl rfl rfl rfl A163 (Nat.le_of_ble_eq_true rfl) (hJ _ _ _ _ (by decide)) (xm_le ml_180 rfl) rfl ?_
      have zc1 : (1 : Int32).toInt = 1 := by decide
      refine mt_180_0 hJ hov1 hov2 (d := 97) (x1 := 1) (x2 := a108) (x3 := 1) K.1 (by first | omega | decide) (by first | omega | decide) (fun r164 hh165 br164 K166 => ?_)
      have K167 := xk_tr K K166 rfl
      obtain ⟨u168, u169, bu168, bu169, A170⟩ := xq_0 K167.1
      have e171 : u162 = u169 := xk_eqi (q := 9) K166 rfl A163 A170 rfl rfl
      subst e171
      show xw J ov 100 195 (1371, [(4, .int x4), (3, .ref 167), (2, .ref 115), (1, .ref 0), (0, .ref 1000000)], [.int r164], hh165) _
      refine xi_pop (pc' := 1372) kc_195_1371 rfl rfl ?_
      refine xi_aload_n (pc' := 1373) (x := 115) kc_195_1372 rfl rfl ?_
      refine xi_aload_n (pc' := 1374) (x := 1000000) kc_195_1373 rfl rfl ?_
      refine xi_iload (pc' := 1376) (x := x4) kc_195_1374 rfl rfl ?_
      refine xi_iconst (pc' := 1377) (v := 1) kc_195_1376 rfl rfl ?_
      refine xi_iadd (pc' := 1378) (v := v1) kc_195_1377 rfl ev1 ?_
      refine xi_ialoadO (pc' := 1379) (v := a2) kc_195_1378 rfl (by decide) hov0 (xi_in (by omega) (by omega)) ea2 ?_
      refine xi_iff (pc' := 1382) kc_195_1379 rfl (xc_eq_f (X := a2.toInt) (Y := 0) rfl (by decide) (by omega)) ?_
      refine xi_iconst (pc' := 1383) (v := 1) kc_195_1382 rfl rfl ?_
      refine xi_goto (pc' := 1387) kc_195_1383 rfl ?_
      refine xi_aload_n (pc' := 1388) (x := 1000000) kc_195_1387 rfl rfl ?_
      refine xi_iload (pc' := 1390) (x := x4) kc_195_1388 rfl rfl ?_
      refine xi_iconst (pc' := 1391) (v := 2) kc_195_1390 rfl rfl ?_
      refine xi_iadd (pc' := 1392) (v := v107) kc_195_1391 rfl ev107 ?_
      refine xi_ialoadO (pc' := 1393) (v := a108) kc_195_1392 rfl (by decide) hov0 (xi_in (by omega) (by omega)) ea108 ?_
      refine xi_aload_n (pc' := 1394) (x := 1000000) kc_195_1393 rfl rfl ?_
      refine xi_iload (pc' := 1396) (x := x4) kc_195_1394 rfl rfl ?_
      refine xi_iconst (pc' := 1397) (v := 3) kc_195_1396 rfl rfl ?_
      refine xi_iadd (pc' := 1398) (v := v109) kc_195_1397 rfl ev109 ?_
      refine xi_ialoadO (pc' := 1399) (v := a110) kc_195_1398 rfl (by decide) hov0 (xi_in (by omega) (by omega)) ea110 ?_
      refine xi_iff (pc' := 1402) kc_195_1399 rfl (xc_eq_f (X := a110.toInt) (Y := 0) rfl (by decide) (by omega)) ?_
      refine xi_iconst (pc' := 1403) (v := 1) kc_195_1402 rfl rfl ?_
      refine xi_goto (pc' := 1407) kc_195_1403 rfl ?_
      obtain ⟨u172, u173, u174, u175, u176, u177, u178, u179, u180, u181, u182, u183, u184, bu172, bu173, bu174, bu175, bu176, bu177, bu178, bu179, bu180, bu181, bu182, bu183, bu184, A185⟩ := xq_115 K167.1
      refine xi_virtual (mj := 72) (as := [.int 1, .int a108, .int 1]) (st1 := []) (lv0 := [(0, .ref 115), (1, .int 1), (2, .int a108), (3, .int 1)]) kc_195_1407 rfl rfl rfl rfl rfl A185 (Nat.le_of_ble_eq_true rfl) (hJ _ _ _ _ (by decide)) (xm_le ml_72 rfl) rfl ?_
      have zc1 : (1 : Int32).toInt = 1 := by decide
      refine mt_72_0 hJ hov1 hov2 (d := 98) (x1 := 1) (x2 := a108) (x3 := 1) K167.1 (by first | omega | decide) (by first | omega | decide) (fun r186 hh187 br186 K188 => ?_)
      have K189 := xk_tr K167 K188 rfl
      obtain ⟨u190, u191, bu190, bu191, A192⟩ := xq_0 K189.1
      have e193 : u162 = u191 := xk_eqi (q := 9) K188 rfl A170 A192 rfl rfl
      subst e193
      obtain ⟨u194, u195, u196, u197, u198, u199, u200, u201, u202, u203, u204, u205, u206, bu194, bu195, bu196, bu197, bu198, bu199, bu200, bu201, bu202, bu203, bu204, bu205, bu206, A207⟩ := xq_115 K189.1
      have e208 : u173 = u195 := xk_eqi (q := 1) K188 rfl A185 A207 rfl rfl
      subst e208
      show xw J ov 100 195 (1410, [(4, .int x4), (3, .ref 167), (2, .ref 115), (1, .ref 0), (0, .ref 1000000)], [.int r186], hh187) _
      refine xi_pop (pc' := 1411) kc_195_1410 rfl rfl ?_
      refine xi_goto (pc' := 1501) kc_195_1411 rfl ?_
      obtain ⟨v209, ev209⟩ : ∃ q : Int32, x4 + 6 = q := ⟨_, rfl⟩
      have zv209 : v209.toInt = (x4.toInt + 6) := by rw [← ev209]; exact (xz_add (X := x4.toInt) (Y := 6) rfl (by decide) (by omega) (by omega)).trans (by omega)
      refine xi_iinc (pc' := 1504) (x := x4) (v := v209) (lv' := [(4, .int v209), (3, .ref 167), (2, .ref 115), (1, .ref 0), (0, .ref 1000000)]) kc_195_1501 rfl rfl ev209 rfl (xm_lt ml_195 rfl) ?_
      refine xi_goto (pc' := 23) kc_195_1504 rfl ?_
      exact kk v209 hh187 (by omega) K189
set_option maxHeartbeats 8000000 in
theorem lc_31 {J : xe_J} {ov : List (List Int32)} (hJ : ∀ d mj as h, mj ≠ xe_loff → J d mj as h = none) (hov1 : ov[1]? = some [10, 0, 0, 0, 0, 0]) (hov2 : ov[2]? = some [99, 30, 50, 50, 1, 99999]) {xs : List Int32} (hov0 : ov[0]? = some xs) {Q : Option Value → xe_H → Prop} {h : xe_H} {x4 : Int32} (hi0 : 0 ≤ x4.toInt) (hi1 : x4.toInt + 6 ≤ xs.length) (hi2 : x4.toInt ≤ 3066) (T : xt h) (kk : ∀ (i : Int32) (h' : xe_H), i.toInt = x4.toInt + 6 → xk [(6, 0), (123, 0), (9, 0), (124, 0)] h h' → xw J ov 100 195 (23, [(4, .int i), (3, .ref 167), (2, .ref 115), (1, .ref 0), (0, .ref 1000000)], [], h') Q) : xw J ov 100 195 (1414, [(4, .int x4), (3, .ref 167), (2, .ref 115), (1, .ref 0), (0, .ref 1000000)], [], h) Q := by
  have K : xk [(6, 0), (123, 0), (9, 0), (124, 0)] h h := xk_re T
  refine xi_aload_n (pc' := 1415) (x := 0) kc_195_1414 rfl rfl ?_
  refine xi_aload_n (pc' := 1416) (x := 1000000) kc_195_1415 rfl rfl ?_
  refine xi_iload (pc' := 1418) (x := x4) kc_195_1416 rfl rfl ?_
  refine xi_iconst (pc' := 1419) (v := 1) kc_195_1418 rfl rfl ?_
  obtain ⟨v1, ev1⟩ : ∃ q : Int32, x4 + 1 = q := ⟨_, rfl⟩
  have zv1 : v1.toInt = (x4.toInt + 1) := by rw [← ev1]; exact (xz_add (X := x4.toInt) (Y := 1) rfl (by decide) (by omega) (by omega)).trans (by omega)
  refine xi_iadd (pc' := 1420) (v := v1) kc_195_1419 rfl ev1 ?_
  obtain ⟨a2, ea2⟩ : ∃ q : Int32, xs.getD (Int32.toNatClampNeg v1) 0 = q := ⟨_, rfl⟩
  have ra2 := xc_rng a2
  refine xi_ialoadO (pc' := 1421) (v := a2) kc_195_1420 rfl (by decide) hov0 (xi_in (by omega) (by omega)) ea2 ?_
  refine xi_aload_n (pc' := 1422) (x := 1000000) kc_195_1421 rfl rfl ?_
  refine xi_iload (pc' := 1424) (x := x4) kc_195_1422 rfl rfl ?_
  refine xi_iconst (pc' := 1425) (v := 2) kc_195_1424 rfl rfl ?_
  obtain ⟨v3, ev3⟩ : ∃ q : Int32, x4 + 2 = q := ⟨_, rfl⟩
  have zv3 : v3.toInt = (x4.toInt + 2) := by rw [← ev3]; exact (xz_add (X := x4.toInt) (Y := 2) rfl (by decide) (by omega) (by omega)).trans (by omega)
  refine xi_iadd (pc' := 1426) (v := v3) kc_195_1425 rfl ev3 ?_
  obtain ⟨a4, ea4⟩ : ∃ q : Int32, xs.getD (Int32.toNatClampNeg v3) 0 = q := ⟨_, rfl⟩
  have ra4 := xc_rng a4
  refine xi_ialoadO (pc' := 1427) (v := a4) kc_195_1426 rfl (by decide) hov0 (xi_in (by omega) (by omega)) ea4 ?_
  obtain ⟨u5, u6, bu5, bu6, A7⟩ := xq_0 K.1
  refine xi_virtual (mj := 182) (as := [.int a2, .int a4]) (st1 := []) (lv0 := [(0, .ref 0), (1, .int a2), (2, .int a4)]) kc_195_1427 rfl rfl rfl rfl rfl A7 (Nat.le_of_ble_eq_true rfl) (hJ _ _ _ _ (by decide)) (xm_le ml_182 rfl) rfl ?_
  refine mt_182_0 hJ hov1 hov2 (d := 92) (x1 := a2) (x2 := a4) K.1 (fun r8 hh9 K10 => ?_)
  have br8 := xc_rng r8
  have K11 := xk_tr K K10 rfl
  obtain ⟨u12, u13, bu12, bu13, A14⟩ := xq_0 K11.1
  have e15 : u6 = u13 := xk_eqi (q := 9) K10 rfl A7 A14 rfl rfl
  subst e15
  show xw J ov 100 195 (1430, [(4, .int x4), (3, .ref 167), (2, .ref 115), (1, .ref 0), (0, .ref 1000000)], [.int r8], hh9) _
  refine xi_pop (pc' := 1431) kc_195_1430 rfl rfl ?_
  refine xi_aload_n (pc' := 1432) (x := 115) kc_195_1431 rfl rfl ?_
  refine xi_aload_n (pc' := 1433) (x := 1000000) kc_195_1432 rfl rfl ?_
  refine xi_iload (pc' := 1435) (x := x4) kc_195_1433 rfl rfl ?_
  refine xi_iconst (pc' := 1436) (v := 1) kc_195_1435 rfl rfl ?_
  refine xi_iadd (pc' := 1437) (v := v1) kc_195_1436 rfl ev1 ?_
  refine xi_ialoadO (pc' := 1438) (v := a2) kc_195_1437 rfl (by decide) hov0 (xi_in (by omega) (by omega)) ea2 ?_
  refine xi_aload_n (pc' := 1439) (x := 1000000) kc_195_1438 rfl rfl ?_
  refine xi_iload (pc' := 1441) (x := x4) kc_195_1439 rfl rfl ?_
  refine xi_iconst (pc' := 1442) (v := 2) kc_195_1441 rfl rfl ?_
  refine xi_iadd (pc' := 1443) (v := v3) kc_195_1442 rfl ev3 ?_
  refine xi_ialoadO (pc' := 1444) (v := a4) kc_195_1443 rfl (by decide) hov0 (xi_in (by omega) (by omega)) ea4 ?_
  obtain ⟨u16, u17, u18, u19, u20, u21, u22, u23, u24, u25, u26, u27, u28, bu16, bu17, bu18, bu19, bu20, bu21, bu22, bu23, bu24, bu25, bu26, bu27, bu28, A29⟩ := xq_115 K11.1
  refine xi_virtual (mj := 73) (as := [.int a2, .int a4]) (st1 := []) (lv0 := [(0, .ref 115), (1, .int a2), (2, .int a4)]) kc_195_1444 rfl rfl rfl rfl rfl A29 (Nat.le_of_ble_eq_true rfl) (hJ _ _ _ _ (by decide)) (xm_le ml_73 rfl) rfl ?_
  refine mt_73_0 hJ hov1 hov2 (d := 91) (x1 := a2) (x2 := a4) K11.1 (fun r30 hh31 K32 => ?_)
  have br30 := xc_rng r30
  have K33 := xk_tr K11 K32 rfl
  obtain ⟨u34, u35, bu34, bu35, A36⟩ := xq_0 K33.1
  have e37 : u6 = u35 := xk_eqi (q := 9) K32 rfl A14 A36 rfl rfl
  subst e37
  obtain ⟨u38, u39, u40, u41, u42, u43, u44, u45, u46, u47, u48, u49, u50, bu38, bu39, bu40, bu41, bu42, bu43, bu44, bu45, bu46, bu47, bu48, bu49, bu50, A51⟩ := xq_115 K33.1
  have e52 : u17 = u39 := xk_eqi (q := 1) K32 rfl A29 A51 rfl rfl
  subst e52
  show xw J ov 100 195 (1447, [(4, .int x4), (3, .ref 167), (2, .ref 115), (1, .ref 0), (0, .ref 1000000)], [.int r30], hh31) _
  refine xi_pop (pc' := 1448) kc_195_1447 rfl rfl ?_
  refine xi_goto (pc' := 1501) kc_195_1448 rfl ?_
  obtain ⟨v53, ev53⟩ : ∃ q : Int32, x4 + 6 = q := ⟨_, rfl⟩
  have zv53 : v53.toInt = (x4.toInt + 6) := by rw [← ev53]; exact (xz_add (X := x4.toInt) (Y := 6) rfl (by decide) (by omega) (by omega)).trans (by omega)
  refine xi_iinc (pc' := 1504) (x := x4) (v := v53) (lv' := [(4, .int v53), (3, .ref 167), (2, .ref 115), (1, .ref 0), (0, .ref 1000000)]) kc_195_1501 rfl rfl ev53 rfl (xm_lt ml_195 rfl) ?_
  refine xi_goto (pc' := 23) kc_195_1504 rfl ?_
  exact kk v53 hh31 (by omega) K33
set_option maxHeartbeats 8000000 in
theorem lc_32 {J : xe_J} {ov : List (List Int32)} (hJ : ∀ d mj as h, mj ≠ xe_loff → J d mj as h = none) (hov1 : ov[1]? = some [10, 0, 0, 0, 0, 0]) (hov2 : ov[2]? = some [99, 30, 50, 50, 1, 99999]) {xs : List Int32} (hov0 : ov[0]? = some xs) {Q : Option Value → xe_H → Prop} {h : xe_H} {x4 : Int32} (hi0 : 0 ≤ x4.toInt) (hi1 : x4.toInt + 6 ≤ xs.length) (hi2 : x4.toInt ≤ 3066) (T : xt h) (kk : ∀ (i : Int32) (h' : xe_H), i.toInt = x4.toInt + 6 → xk [(6, 0), (123, 0), (9, 0), (124, 0)] h h' → xw J ov 100 195 (23, [(4, .int i), (3, .ref 167), (2, .ref 115), (1, .ref 0), (0, .ref 1000000)], [], h') Q) : xw J ov 100 195 (1451, [(4, .int x4), (3, .ref 167), (2, .ref 115), (1, .ref 0), (0, .ref 1000000)], [], h) Q := by
  have K : xk [(6, 0), (123, 0), (9, 0), (124, 0)] h h := xk_re T
  refine xi_aload_n (pc' := 1452) (x := 0) kc_195_1451 rfl rfl ?_
  refine xi_aload_n (pc' := 1453) (x := 1000000) kc_195_1452 rfl rfl ?_
  refine xi_iload (pc' := 1455) (x := x4) kc_195_1453 rfl rfl ?_
  refine xi_iconst (pc' := 1456) (v := 1) kc_195_1455 rfl rfl ?_
  obtain ⟨v1, ev1⟩ : ∃ q : Int32, x4 + 1 = q := ⟨_, rfl⟩
  have zv1 : v1.toInt = (x4.toInt + 1) := by rw [← ev1]; exact (xz_add (X := x4.toInt) (Y := 1) rfl (by decide) (by omega) (by omega)).trans (by omega)
  refine xi_iadd (pc' := 1457) (v := v1) kc_195_1456 rfl ev1 ?_
  obtain ⟨a2, ea2⟩ : ∃ q : Int32, xs.getD (Int32.toNatClampNeg v1) 0 = q := ⟨_, rfl⟩
  have ra2 := xc_rng a2
  refine xi_ialoadO (pc' := 1458) (v := a2) kc_195_1457 rfl (by decide) hov0 (xi_in (by omega) (by omega)) ea2 ?_
  obtain ⟨u3, u4, bu3, bu4, A5⟩ := xq_0 K.1
  refine xi_virtual (mj := 188) (as := [.int a2]) (st1 := []) (lv0 := [(0, .ref 0), (1, .int a2)]) kc_195_1458 rfl rfl rfl rfl rfl A5 (Nat.le_of_ble_eq_true rfl) (hJ _ _ _ _ (by decide)) (xm_le ml_188 rfl) rfl ?_
  refine mt_188_0 hJ hov1 hov2 (d := 97) (x1 := a2) K.1 (fun r6 hh7 br6 K8 => ?_)
  have K9 := xk_tr K K8 rfl
  obtain ⟨u10, u11, bu10, bu11, A12⟩ := xq_0 K9.1
  have e13 : u4 = u11 := xk_eqi (q := 9) K8 rfl A5 A12 rfl rfl
  subst e13
  show xw J ov 100 195 (1461, [(4, .int x4), (3, .ref 167), (2, .ref 115), (1, .ref 0), (0, .ref 1000000)], [.int r6], hh7) _
  refine xi_pop (pc' := 1462) kc_195_1461 rfl rfl ?_
  refine xi_aload_n (pc' := 1463) (x := 115) kc_195_1462 rfl rfl ?_
  refine xi_aload_n (pc' := 1464) (x := 1000000) kc_195_1463 rfl rfl ?_
  refine xi_iload (pc' := 1466) (x := x4) kc_195_1464 rfl rfl ?_
  refine xi_iconst (pc' := 1467) (v := 1) kc_195_1466 rfl rfl ?_
  refine xi_iadd (pc' := 1468) (v := v1) kc_195_1467 rfl ev1 ?_
  refine xi_ialoadO (pc' := 1469) (v := a2) kc_195_1468 rfl (by decide) hov0 (xi_in (by omega) (by omega)) ea2 ?_
  obtain ⟨u14, u15, u16, u17, u18, u19, u20, u21, u22, u23, u24, u25, u26, bu14, bu15, bu16, bu17, bu18, bu19, bu20, bu21, bu22, bu23, bu24, bu25, bu26, A27⟩ := xq_115 K9.1
  refine xi_virtual (mj := 74) (as := [.int a2]) (st1 := []) (lv0 := [(0, .ref 115), (1, .int a2)]) kc_195_1469 rfl rfl rfl rfl rfl A27 (Nat.le_of_ble_eq_true rfl) (hJ _ _ _ _ (by decide)) (xm_le ml_74 rfl) rfl ?_
  refine mt_74_0 hJ hov1 hov2 (d := 98) (x1 := a2) K9.1 (fun r28 hh29 br28 K30 => ?_)
  have K31 := xk_tr K9 K30 rfl
  obtain ⟨u32, u33, bu32, bu33, A34⟩ := xq_0 K31.1
  have e35 : u4 = u33 := xk_eqi (q := 9) K30 rfl A12 A34 rfl rfl
  subst e35
  obtain ⟨u36, u37, u38, u39, u40, u41, u42, u43, u44, u45, u46, u47, u48, bu36, bu37, bu38, bu39, bu40, bu41, bu42, bu43, bu44, bu45, bu46, bu47, bu48, A49⟩ := xq_115 K31.1
  have e50 : u15 = u37 := xk_eqi (q := 1) K30 rfl A27 A49 rfl rfl
  subst e50
  show xw J ov 100 195 (1472, [(4, .int x4), (3, .ref 167), (2, .ref 115), (1, .ref 0), (0, .ref 1000000)], [.int r28], hh29) _
  refine xi_pop (pc' := 1473) kc_195_1472 rfl rfl ?_
  refine xi_goto (pc' := 1501) kc_195_1473 rfl ?_
  obtain ⟨v51, ev51⟩ : ∃ q : Int32, x4 + 6 = q := ⟨_, rfl⟩
  have zv51 : v51.toInt = (x4.toInt + 6) := by rw [← ev51]; exact (xz_add (X := x4.toInt) (Y := 6) rfl (by decide) (by omega) (by omega)).trans (by omega)
  refine xi_iinc (pc' := 1504) (x := x4) (v := v51) (lv' := [(4, .int v51), (3, .ref 167), (2, .ref 115), (1, .ref 0), (0, .ref 1000000)]) kc_195_1501 rfl rfl ev51 rfl (xm_lt ml_195 rfl) ?_
  refine xi_goto (pc' := 23) kc_195_1504 rfl ?_
  exact kk v51 hh29 (by omega) K31
set_option maxHeartbeats 8000000 in
theorem lc_33 {J : xe_J} {ov : List (List Int32)} (hJ : ∀ d mj as h, mj ≠ xe_loff → J d mj as h = none) (hov1 : ov[1]? = some [10, 0, 0, 0, 0, 0]) (hov2 : ov[2]? = some [99, 30, 50, 50, 1, 99999]) {xs : List Int32} (hov0 : ov[0]? = some xs) {Q : Option Value → xe_H → Prop} {h : xe_H} {x4 : Int32} (hi0 : 0 ≤ x4.toInt) (hi1 : x4.toInt + 6 ≤ xs.length) (hi2 : x4.toInt ≤ 3066) (T : xt h) (kk : ∀ (i : Int32) (h' : xe_H), i.toInt = x4.toInt + 6 → xk [(6, 0), (123, 0), (9, 0), (124, 0)] h h' → xw J ov 100 195 (23, [(4, .int i), (3, .ref 167), (2, .ref 115), (1, .ref 0), (0, .ref 1000000)], [], h') Q) : xw J ov 100 195 (1476, [(4, .int x4), (3, .ref 167), (2, .ref 115), (1, .ref 0), (0, .ref 1000000)], [], h) Q := by
  have K : xk [(6, 0), (123, 0), (9, 0), (124, 0)] h h := xk_re T
  refine xi_aload_n (pc' := 1477) (x := 0) kc_195_1476 rfl rfl ?_
  refine xi_aload_n (pc' := 1478) (x := 1000000) kc_195_1477 rfl rfl ?_
  refine xi_iload (pc' := 1480) (x := x4) kc_195_1478 rfl rfl ?_
  refine xi_iconst (pc' := 1481) (v := 1) kc_195_1480 rfl rfl ?_
  obtain ⟨v1, ev1⟩ : ∃ q : Int32, x4 + 1 = q := ⟨_, rfl⟩
  have zv1 : v1.toInt = (x4.toInt + 1) := by rw [← ev1]; exact (xz_add (X := x4.toInt) (Y := 1) rfl (by decide) (by omega) (by omega)).trans (by omega)
  refine xi_iadd (pc' := 1482) (v := v1) kc_195_1481 rfl ev1 ?_
  obtain ⟨a2, ea2⟩ : ∃ q : Int32, xs.getD (Int32.toNatClampNeg v1) 0 = q := ⟨_, rfl⟩
  have ra2 := xc_rng a2
  refine xi_ialoadO (pc' := 1483) (v := a2) kc_195_1482 rfl (by decide) hov0 (xi_in (by omega) (by omega)) ea2 ?_
  obtain ⟨u3, u4, bu3, bu4, A5⟩ := xq_0 K.1
  refine xi_virtual (mj := 190) (as := [.int a2]) (st1 := []) (lv0 := [(0, .ref 0), (1, .int a2)]) kc_195_1483 rfl rfl rfl rfl rfl A5 (Nat.le_of_ble_eq_true rfl) (hJ _ _ _ _ (by decide)) (xm_le ml_190 rfl) rfl ?_
  refine mt_190_0 hJ hov1 hov2 (d := 96) (x1 := a2) K.1 (fun r6 hh7 K8 => ?_)
  have br6 := xc_rng r6
  have K9 := xk_tr K K8 rfl
  obtain ⟨u10, u11, bu10, bu11, A12⟩ := xq_0 K9.1
  have e13 : u4 = u11 := xk_eqi (q := 9) K8 rfl A5 A12 rfl rfl
  subst e13
  show xw J ov 100 195 (1486, [(4, .int x4), (3, .ref 167), (2, .ref 115), (1, .ref 0), (0, .ref 1000000)], [.int r6], hh7) _
  refine xi_pop (pc' := 1487) kc_195_1486 rfl rfl ?_
  refine xi_aload_n (pc' := 1488) (x := 115) kc_195_1487 rfl rfl ?_
  refine xi_aload_n (pc' := 1489) (x := 1000000) kc_195_1488 rfl rfl ?_
  refine xi_iload (pc' := 1491) (x := x4) kc_195_1489 rfl rfl ?_
  refine xi_iconst (pc' := 1492) (v := 1) kc_195_1491 rfl rfl ?_
  refine xi_iadd (pc' := 1493) (v := v1) kc_195_1492 rfl ev1 ?_
  refine xi_ialoadO (pc' := 1494) (v := a2) kc_195_1493 rfl (by decide) hov0 (xi_in (by omega) (by omega)) ea2 ?_
  obtain ⟨u14, u15, u16, u17, u18, u19, u20, u21, u22, u23, u24, u25, u26, bu14, bu15, bu16, bu17, bu18, bu19, bu20, bu21, bu22, bu23, bu24, bu25, bu26, A27⟩ := xq_115 K9.1
  refine xi_virtual (mj := 75) (as := [.int a2]) (st1 := []) (lv0 := [(0, .ref 115), (1, .int a2)]) kc_195_1494 rfl rfl rfl rfl rfl A27 (Nat.le_of_ble_eq_true rfl) (hJ _ _ _ _ (by decide)) (xm_le ml_75 rfl) rfl ?_
  refine mt_75_0 hJ hov1 hov2 (d := 97) (x1 := a2) K9.1 (fun r28 hh29 K30 => ?_)
  have br28 := xc_rng r28
  have K31 := xk_tr K9 K30 rfl
  obtain ⟨u32, u33, bu32, bu33, A34⟩ := xq_0 K31.1
  have e35 : u4 = u33 := xk_eqi (q := 9) K30 rfl A12 A34 rfl rfl
  subst e35
  obtain ⟨u36, u37, u38, u39, u40, u41, u42, u43, u44, u45, u46, u47, u48, bu36, bu37, bu38, bu39, bu40, bu41, bu42, bu43, bu44, bu45, bu46, bu47, bu48, A49⟩ := xq_115 K31.1
  have e50 : u15 = u37 := xk_eqi (q := 1) K30 rfl A27 A49 rfl rfl
  subst e50
  show xw J ov 100 195 (1497, [(4, .int x4), (3, .ref 167), (2, .ref 115), (1, .ref 0), (0, .ref 1000000)], [.int r28], hh29) _
  refine xi_pop (pc' := 1498) kc_195_1497 rfl rfl ?_
  refine xi_goto (pc' := 1501) kc_195_1498 rfl ?_
  obtain ⟨v51, ev51⟩ : ∃ q : Int32, x4 + 6 = q := ⟨_, rfl⟩
  have zv51 : v51.toInt = (x4.toInt + 6) := by rw [← ev51]; exact (xz_add (X := x4.toInt) (Y := 6) rfl (by decide) (by omega) (by omega)).trans (by omega)
  refine xi_iinc (pc' := 1504) (x := x4) (v := v51) (lv' := [(4, .int v51), (3, .ref 167), (2, .ref 115), (1, .ref 0), (0, .ref 1000000)]) kc_195_1501 rfl rfl ev51 rfl (xm_lt ml_195 rfl) ?_
  refine xi_goto (pc' := 23) kc_195_1504 rfl ?_
  exact kk v51 hh29 (by omega) K31
