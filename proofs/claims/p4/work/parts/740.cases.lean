def xI (h : xe_H) : Prop := xE (xl h (6, 0)) (xl h (123, 0)) 0 600 ∧ xE (xl h (9, 0)) (xl h (124, 0)) 0 600 ∧ xL (xl h (7, 0)) (xl h (6, 0)) 5 ∧ xL (xl h (10, 0)) (xl h (9, 0)) 0 ∧ xl h (5, 0) = some (.inl (.int 5)) ∧ xl h (8, 0) = some (.inl (.int 0))
theorem xI_kept {h h' : xe_H} (I : xI h) (F : ∀ l : Nat × Nat, List.elem l [(6, 0), (123, 0), (9, 0), (124, 0), (7, 0), (10, 0), (5, 0), (8, 0)] = true → xl h' l = xl h l) : xI h' := ⟨(show xE (xl h' (6, 0)) (xl h' (123, 0)) 0 600 by rw [F (6, 0) rfl, F (123, 0) rfl]; exact I.1), (show xE (xl h' (9, 0)) (xl h' (124, 0)) 0 600 by rw [F (9, 0) rfl, F (124, 0) rfl]; exact I.2.1), (show xL (xl h' (7, 0)) (xl h' (6, 0)) 5 by rw [F (7, 0) rfl, F (6, 0) rfl]; exact I.2.2.1), (show xL (xl h' (10, 0)) (xl h' (9, 0)) 0 by rw [F (10, 0) rfl, F (9, 0) rfl]; exact I.2.2.2.1), (F (5, 0) rfl).trans I.2.2.2.2.1, (F (8, 0) rfl).trans I.2.2.2.2.2⟩
set_option maxHeartbeats 8000000 in
theorem lc_d {J : xe_J} {ov : List (List Int32)} (hJ : ∀ d mj as h, mj ≠ xe_loff → J d mj as h = none) (hov1 : ov[1]? = some [10, 0, 0, 0, 0, 0]) (hov2 : ov[2]? = some [99, 30, 50, 50, 1, 99999]) {xs : List Int32} (hov0 : ov[0]? = some xs) {Q : Option Value → xe_H → Prop} {h : xe_H} {x4 : Int32} (hi0 : 0 ≤ x4.toInt) (hi1 : x4.toInt + 6 ≤ xs.length) (hi2 : x4.toInt ≤ 3066) (T : xt h) (kk : ∀ (i : Int32) (h' : xe_H), i.toInt = x4.toInt + 6 → xk [(6, 0), (123, 0), (9, 0), (124, 0), (7, 0), (10, 0), (5, 0), (8, 0)] h h' → xw J ov 100 195 (23, [(4, .int i), (3, .ref 167), (2, .ref 115), (1, .ref 0), (0, .ref 1000000)], [], h') Q) : xw J ov 100 195 (1501, [(4, .int x4), (3, .ref 167), (2, .ref 115), (1, .ref 0), (0, .ref 1000000)], [], h) Q := by
  have K : xk [(6, 0), (123, 0), (9, 0), (124, 0), (7, 0), (10, 0), (5, 0), (8, 0)] h h := xk_re T
  obtain ⟨v1, ev1⟩ : ∃ q : Int32, x4 + 6 = q := ⟨_, rfl⟩
  have zv1 : v1.toInt = (x4.toInt + 6) := by rw [← ev1]; exact (xz_add (X := x4.toInt) (Y := 6) rfl (by decide) (by omega) (by omega)).trans (by omega)
  refine xi_iinc (pc' := 1504) (x := x4) (v := v1) (lv' := [(4, .int v1), (3, .ref 167), (2, .ref 115), (1, .ref 0), (0, .ref 1000000)]) kc_195_1501 rfl rfl ev1 rfl (xm_lt ml_195 rfl) ?_
  refine xi_goto (pc' := 23) kc_195_1504 rfl ?_
  exact kk v1 h (by omega) K
set_option maxHeartbeats 8000000 in
theorem lc_0 {J : xe_J} {ov : List (List Int32)} (hJ : ∀ d mj as h, mj ≠ xe_loff → J d mj as h = none) (hov1 : ov[1]? = some [10, 0, 0, 0, 0, 0]) (hov2 : ov[2]? = some [99, 30, 50, 50, 1, 99999]) {xs : List Int32} (hov0 : ov[0]? = some xs) {Q : Option Value → xe_H → Prop} {h : xe_H} {x4 : Int32} (hi0 : 0 ≤ x4.toInt) (hi1 : x4.toInt + 6 ≤ xs.length) (hi2 : x4.toInt ≤ 3066) (T : xt h) (kk : ∀ (i : Int32) (h' : xe_H), i.toInt = x4.toInt + 6 → xk [(6, 0), (123, 0), (9, 0), (124, 0), (7, 0), (10, 0), (5, 0), (8, 0)] h h' → xw J ov 100 195 (23, [(4, .int i), (3, .ref 167), (2, .ref 115), (1, .ref 0), (0, .ref 1000000)], [], h') Q) : xw J ov 100 195 (192, [(4, .int x4), (3, .ref 167), (2, .ref 115), (1, .ref 0), (0, .ref 1000000)], [], h) Q := by
  have K : xk [(6, 0), (123, 0), (9, 0), (124, 0), (7, 0), (10, 0), (5, 0), (8, 0)] h h := xk_re T
  refine xi_aload_n (pc' := 193) (x := 0) kc_195_192 rfl rfl ?_
  refine xi_aload_n (pc' := 194) (x := 1000000) kc_195_193 rfl rfl ?_
  refine xi_iload (pc' := 196) (x := x4) kc_195_194 rfl rfl ?_
  refine xi_iconst (pc' := 197) (v := 1) kc_195_196 rfl rfl ?_
  obtain ⟨v1, ev1⟩ : ∃ q : Int32, x4 + 1 = q := ⟨_, rfl⟩
  have zv1 : v1.toInt = (x4.toInt + 1) := by rw [← ev1]; exact (xz_add (X := x4.toInt) (Y := 1) rfl (by decide) (by omega) (by omega)).trans (by omega)
  refine xi_iadd (pc' := 198) (v := v1) kc_195_197 rfl ev1 ?_
  obtain ⟨a2, ea2⟩ : ∃ q : Int32, xs.getD (Int32.toNatClampNeg v1) 0 = q := ⟨_, rfl⟩
  have ra2 := xc_rng a2
  refine xi_ialoadO (pc' := 199) (v := a2) kc_195_198 rfl (by decide) hov0 (xi_in (by omega) (by omega)) ea2 ?_
  refine xi_aload_n (pc' := 200) (x := 1000000) kc_195_199 rfl rfl ?_
  refine xi_iload (pc' := 202) (x := x4) kc_195_200 rfl rfl ?_
  refine xi_iconst (pc' := 203) (v := 2) kc_195_202 rfl rfl ?_
  obtain ⟨v3, ev3⟩ : ∃ q : Int32, x4 + 2 = q := ⟨_, rfl⟩
  have zv3 : v3.toInt = (x4.toInt + 2) := by rw [← ev3]; exact (xz_add (X := x4.toInt) (Y := 2) rfl (by decide) (by omega) (by omega)).trans (by omega)
  refine xi_iadd (pc' := 204) (v := v3) kc_195_203 rfl ev3 ?_
  obtain ⟨a4, ea4⟩ : ∃ q : Int32, xs.getD (Int32.toNatClampNeg v3) 0 = q := ⟨_, rfl⟩
  have ra4 := xc_rng a4
  refine xi_ialoadO (pc' := 205) (v := a4) kc_195_204 rfl (by decide) hov0 (xi_in (by omega) (by omega)) ea4 ?_
  refine xi_aload_n (pc' := 206) (x := 1000000) kc_195_205 rfl rfl ?_
  refine xi_iload (pc' := 208) (x := x4) kc_195_206 rfl rfl ?_
  refine xi_iconst (pc' := 209) (v := 3) kc_195_208 rfl rfl ?_
  obtain ⟨v5, ev5⟩ : ∃ q : Int32, x4 + 3 = q := ⟨_, rfl⟩
  have zv5 : v5.toInt = (x4.toInt + 3) := by rw [← ev5]; exact (xz_add (X := x4.toInt) (Y := 3) rfl (by decide) (by omega) (by omega)).trans (by omega)
  refine xi_iadd (pc' := 210) (v := v5) kc_195_209 rfl ev5 ?_
  obtain ⟨a6, ea6⟩ : ∃ q : Int32, xs.getD (Int32.toNatClampNeg v5) 0 = q := ⟨_, rfl⟩
  have ra6 := xc_rng a6
  refine xi_ialoadO (pc' := 211) (v := a6) kc_195_210 rfl (by decide) hov0 (xi_in (by omega) (by omega)) ea6 ?_
  obtain ⟨u7, u8, bu7, bu8, A9⟩ := xq_0 K.1
  refine xi_virtual (mj := 88) (as := [.int a2, .int a4, .int a6]) (st1 := []) (lv0 := [(0, .ref 0), (1, .int a2), (2, .int a4), (3, .int a6)]) kc_195_211 rfl rfl rfl rfl rfl A9 (Nat.le_of_ble_eq_true rfl) (hJ _ _ _ _ (by decide)) (xm_le ml_88 rfl) rfl ?_
  refine mt_88_0 hJ hov1 hov2 (d := 97) (x1 := a2) (x2 := a4) (x3 := a6) K.1 (fun r10 hh11 K12 => ?_)
  have br10 := xc_rng r10
  have K13 := xk_tr K K12 rfl
  obtain ⟨u14, u15, bu14, bu15, A16⟩ := xq_0 K13.1
  have e17 : u8 = u15 := xk_eqi (q := 9) K12 rfl A9 A16 rfl rfl
  subst e17
  show xw J ov 100 195 (214, [(4, .int x4), (3, .ref 167), (2, .ref 115), (1, .ref 0), (0, .ref 1000000)], [.int r10], hh11) _
  refine xi_pop (pc' := 215) kc_195_214 rfl rfl ?_
  refine xi_aload_n (pc' := 216) (x := 115) kc_195_215 rfl rfl ?_
  refine xi_aload_n (pc' := 217) (x := 1000000) kc_195_216 rfl rfl ?_
  refine xi_iload (pc' := 219) (x := x4) kc_195_217 rfl rfl ?_
  refine xi_iconst (pc' := 220) (v := 1) kc_195_219 rfl rfl ?_
  refine xi_iadd (pc' := 221) (v := v1) kc_195_220 rfl ev1 ?_
  refine xi_ialoadO (pc' := 222) (v := a2) kc_195_221 rfl (by decide) hov0 (xi_in (by omega) (by omega)) ea2 ?_
  refine xi_aload_n (pc' := 223) (x := 1000000) kc_195_222 rfl rfl ?_
  refine xi_iload (pc' := 225) (x := x4) kc_195_223 rfl rfl ?_
  refine xi_iconst (pc' := 226) (v := 2) kc_195_225 rfl rfl ?_
  refine xi_iadd (pc' := 227) (v := v3) kc_195_226 rfl ev3 ?_
  refine xi_ialoadO (pc' := 228) (v := a4) kc_195_227 rfl (by decide) hov0 (xi_in (by omega) (by omega)) ea4 ?_
  refine xi_aload_n (pc' := 229) (x := 1000000) kc_195_228 rfl rfl ?_
  refine xi_iload (pc' := 231) (x := x4) kc_195_229 rfl rfl ?_
  refine xi_iconst (pc' := 232) (v := 3) kc_195_231 rfl rfl ?_
  refine xi_iadd (pc' := 233) (v := v5) kc_195_232 rfl ev5 ?_
  refine xi_ialoadO (pc' := 234) (v := a6) kc_195_233 rfl (by decide) hov0 (xi_in (by omega) (by omega)) ea6 ?_
  obtain ⟨u18, u19, u20, u21, u22, u23, u24, u25, u26, u27, u28, u29, u30, bu18, bu19, bu20, bu21, bu22, bu23, bu24, bu25, bu26, bu27, bu28, bu29, bu30, A31⟩ := xq_115 K13.1
  refine xi_virtual (mj := 9) (as := [.int a2, .int a4, .int a6]) (st1 := []) (lv0 := [(0, .ref 115), (1, .int a2), (2, .int a4), (3, .int a6)]) kc_195_234 rfl rfl rfl rfl rfl A31 (Nat.le_of_ble_eq_true rfl) (hJ _ _ _ _ (by decide)) (xm_le ml_9 rfl) rfl ?_
  refine mt_9_0 hJ hov1 hov2 (d := 97) (x1 := a2) (x2 := a4) (x3 := a6) K13.1 (fun r32 hh33 K34 => ?_)
  have br32 := xc_rng r32
  have K35 := xk_tr K13 K34 rfl
  obtain ⟨u36, u37, bu36, bu37, A38⟩ := xq_0 K35.1
  have e39 : u8 = u37 := xk_eqi (q := 9) K34 rfl A16 A38 rfl rfl
  subst e39
  obtain ⟨u40, u41, u42, u43, u44, u45, u46, u47, u48, u49, u50, u51, u52, bu40, bu41, bu42, bu43, bu44, bu45, bu46, bu47, bu48, bu49, bu50, bu51, bu52, A53⟩ := xq_115 K35.1
  have e54 : u19 = u41 := xk_eqi (q := 1) K34 rfl A31 A53 rfl rfl
  subst e54
  show xw J ov 100 195 (237, [(4, .int x4), (3, .ref 167), (2, .ref 115), (1, .ref 0), (0, .ref 1000000)], [.int r32], hh33) _
  refine xi_pop (pc' := 238) kc_195_237 rfl rfl ?_
  refine xi_goto (pc' := 1501) kc_195_238 rfl ?_
  obtain ⟨v55, ev55⟩ : ∃ q : Int32, x4 + 6 = q := ⟨_, rfl⟩
  have zv55 : v55.toInt = (x4.toInt + 6) := by rw [← ev55]; exact (xz_add (X := x4.toInt) (Y := 6) rfl (by decide) (by omega) (by omega)).trans (by omega)
  refine xi_iinc (pc' := 1504) (x := x4) (v := v55) (lv' := [(4, .int v55), (3, .ref 167), (2, .ref 115), (1, .ref 0), (0, .ref 1000000)]) kc_195_1501 rfl rfl ev55 rfl (xm_lt ml_195 rfl) ?_
  refine xi_goto (pc' := 23) kc_195_1504 rfl ?_
  exact kk v55 hh33 (by omega) K35
set_option maxHeartbeats 8000000 in
theorem lc_1 {J : xe_J} {ov : List (List Int32)} (hJ : ∀ d mj as h, mj ≠ xe_loff → J d mj as h = none) (hov1 : ov[1]? = some [10, 0, 0, 0, 0, 0]) (hov2 : ov[2]? = some [99, 30, 50, 50, 1, 99999]) {xs : List Int32} (hov0 : ov[0]? = some xs) {Q : Option Value → xe_H → Prop} {h : xe_H} {x4 : Int32} (hi0 : 0 ≤ x4.toInt) (hi1 : x4.toInt + 6 ≤ xs.length) (hi2 : x4.toInt ≤ 3066) (T : xt h) (kk : ∀ (i : Int32) (h' : xe_H), i.toInt = x4.toInt + 6 → xk [(6, 0), (123, 0), (9, 0), (124, 0), (7, 0), (10, 0), (5, 0), (8, 0)] h h' → xw J ov 100 195 (23, [(4, .int i), (3, .ref 167), (2, .ref 115), (1, .ref 0), (0, .ref 1000000)], [], h') Q) : xw J ov 100 195 (241, [(4, .int x4), (3, .ref 167), (2, .ref 115), (1, .ref 0), (0, .ref 1000000)], [], h) Q := by
  have K : xk [(6, 0), (123, 0), (9, 0), (124, 0), (7, 0), (10, 0), (5, 0), (8, 0)] h h := xk_re T
  refine xi_aload_n (pc' := 242) (x := 0) kc_195_241 rfl rfl ?_
  refine xi_aload_n (pc' := 243) (x := 1000000) kc_195_242 rfl rfl ?_
  refine xi_iload (pc' := 245) (x := x4) kc_195_243 rfl rfl ?_
  refine xi_iconst (pc' := 246) (v := 1) kc_195_245 rfl rfl ?_
  obtain ⟨v1, ev1⟩ : ∃ q : Int32, x4 + 1 = q := ⟨_, rfl⟩
  have zv1 : v1.toInt = (x4.toInt + 1) := by rw [← ev1]; exact (xz_add (X := x4.toInt) (Y := 1) rfl (by decide) (by omega) (by omega)).trans (by omega)
  refine xi_iadd (pc' := 247) (v := v1) kc_195_246 rfl ev1 ?_
  obtain ⟨a2, ea2⟩ : ∃ q : Int32, xs.getD (Int32.toNatClampNeg v1) 0 = q := ⟨_, rfl⟩
  have ra2 := xc_rng a2
  refine xi_ialoadO (pc' := 248) (v := a2) kc_195_247 rfl (by decide) hov0 (xi_in (by omega) (by omega)) ea2 ?_
  refine xi_aload_n (pc' := 249) (x := 1000000) kc_195_248 rfl rfl ?_
  refine xi_iload (pc' := 251) (x := x4) kc_195_249 rfl rfl ?_
  refine xi_iconst (pc' := 252) (v := 2) kc_195_251 rfl rfl ?_
  obtain ⟨v3, ev3⟩ : ∃ q : Int32, x4 + 2 = q := ⟨_, rfl⟩
  have zv3 : v3.toInt = (x4.toInt + 2) := by rw [← ev3]; exact (xz_add (X := x4.toInt) (Y := 2) rfl (by decide) (by omega) (by omega)).trans (by omega)
  refine xi_iadd (pc' := 253) (v := v3) kc_195_252 rfl ev3 ?_
  obtain ⟨a4, ea4⟩ : ∃ q : Int32, xs.getD (Int32.toNatClampNeg v3) 0 = q := ⟨_, rfl⟩
  have ra4 := xc_rng a4
  refine xi_ialoadO (pc' := 254) (v := a4) kc_195_253 rfl (by decide) hov0 (xi_in (by omega) (by omega)) ea4 ?_
  refine xi_aload_n (pc' := 255) (x := 1000000) kc_195_254 rfl rfl ?_
  refine xi_iload (pc' := 257) (x := x4) kc_195_255 rfl rfl ?_
  refine xi_iconst (pc' := 258) (v := 3) kc_195_257 rfl rfl ?_
  obtain ⟨v5, ev5⟩ : ∃ q : Int32, x4 + 3 = q := ⟨_, rfl⟩
  have zv5 : v5.toInt = (x4.toInt + 3) := by rw [← ev5]; exact (xz_add (X := x4.toInt) (Y := 3) rfl (by decide) (by omega) (by omega)).trans (by omega)
  refine xi_iadd (pc' := 259) (v := v5) kc_195_258 rfl ev5 ?_
  obtain ⟨a6, ea6⟩ : ∃ q : Int32, xs.getD (Int32.toNatClampNeg v5) 0 = q := ⟨_, rfl⟩
  have ra6 := xc_rng a6
  refine xi_ialoadO (pc' := 260) (v := a6) kc_195_259 rfl (by decide) hov0 (xi_in (by omega) (by omega)) ea6 ?_
  obtain ⟨u7, u8, bu7, bu8, A9⟩ := xq_0 K.1
  refine xi_virtual (mj := 94) (as := [.int a2, .int a4, .int a6]) (st1 := []) (lv0 := [(0, .ref 0), (1, .int a2), (2, .int a4), (3, .int a6)]) kc_195_260 rfl rfl rfl rfl rfl A9 (Nat.le_of_ble_eq_true rfl) (hJ _ _ _ _ (by decide)) (xm_le ml_94 rfl) rfl ?_
  refine mt_94_0 hJ hov1 hov2 (d := 98) (x1 := a2) (x2 := a4) (x3 := a6) K.1 (fun r10 hh11 K12 => ?_)
  have br10 := xc_rng r10
  have K13 := xk_tr K K12 rfl
  obtain ⟨u14, u15, bu14, bu15, A16⟩ := xq_0 K13.1
  have e17 : u8 = u15 := xk_eqi (q := 9) K12 rfl A9 A16 rfl rfl
  subst e17
  show xw J ov 100 195 (263, [(4, .int x4), (3, .ref 167), (2, .ref 115), (1, .ref 0), (0, .ref 1000000)], [.int r10], hh11) _
  refine xi_pop (pc' := 264) kc_195_263 rfl rfl ?_
  refine xi_aload_n (pc' := 265) (x := 115) kc_195_264 rfl rfl ?_
  refine xi_aload_n (pc' := 266) (x := 1000000) kc_195_265 rfl rfl ?_
  refine xi_iload (pc' := 268) (x := x4) kc_195_266 rfl rfl ?_
  refine xi_iconst (pc' := 269) (v := 1) kc_195_268 rfl rfl ?_
  refine xi_iadd (pc' := 270) (v := v1) kc_195_269 rfl ev1 ?_
  refine xi_ialoadO (pc' := 271) (v := a2) kc_195_270 rfl (by decide) hov0 (xi_in (by omega) (by omega)) ea2 ?_
  refine xi_aload_n (pc' := 272) (x := 1000000) kc_195_271 rfl rfl ?_
  refine xi_iload (pc' := 274) (x := x4) kc_195_272 rfl rfl ?_
  refine xi_iconst (pc' := 275) (v := 2) kc_195_274 rfl rfl ?_
  refine xi_iadd (pc' := 276) (v := v3) kc_195_275 rfl ev3 ?_
  refine xi_ialoadO (pc' := 277) (v := a4) kc_195_276 rfl (by decide) hov0 (xi_in (by omega) (by omega)) ea4 ?_
  refine xi_aload_n (pc' := 278) (x := 1000000) kc_195_277 rfl rfl ?_
  refine xi_iload (pc' := 280) (x := x4) kc_195_278 rfl rfl ?_
  refine xi_iconst (pc' := 281) (v := 3) kc_195_280 rfl rfl ?_
  refine xi_iadd (pc' := 282) (v := v5) kc_195_281 rfl ev5 ?_
  refine xi_ialoadO (pc' := 283) (v := a6) kc_195_282 rfl (by decide) hov0 (xi_in (by omega) (by omega)) ea6 ?_
  obtain ⟨u18, u19, u20, u21, u22, u23, u24, u25, u26, u27, u28, u29, u30, bu18, bu19, bu20, bu21, bu22, bu23, bu24, bu25, bu26, bu27, bu28, bu29, bu30, A31⟩ := xq_115 K13.1
  refine xi_virtual (mj := 15) (as := [.int a2, .int a4, .int a6]) (st1 := []) (lv0 := [(0, .ref 115), (1, .int a2), (2, .int a4), (3, .int a6)]) kc_195_283 rfl rfl rfl rfl rfl A31 (Nat.le_of_ble_eq_true rfl) (hJ _ _ _ _ (by decide)) (xm_le ml_15 rfl) rfl ?_
  refine mt_15_0 hJ hov1 hov2 (d := 97) (x1 := a2) (x2 := a4) (x3 := a6) K13.1 (fun r32 hh33 K34 => ?_)
  have br32 := xc_rng r32
  have K35 := xk_tr K13 K34 rfl
  obtain ⟨u36, u37, bu36, bu37, A38⟩ := xq_0 K35.1
  have e39 : u8 = u37 := xk_eqi (q := 9) K34 rfl A16 A38 rfl rfl
  subst e39
  obtain ⟨u40, u41, u42, u43, u44, u45, u46, u47, u48, u49, u50, u51, u52, bu40, bu41, bu42, bu43, bu44, bu45, bu46, bu47, bu48, bu49, bu50, bu51, bu52, A53⟩ := xq_115 K35.1
  have e54 : u19 = u41 := xk_eqi (q := 1) K34 rfl A31 A53 rfl rfl
  subst e54
  show xw J ov 100 195 (286, [(4, .int x4), (3, .ref 167), (2, .ref 115), (1, .ref 0), (0, .ref 1000000)], [.int r32], hh33) _
  refine xi_pop (pc' := 287) kc_195_286 rfl rfl ?_
  refine xi_goto (pc' := 1501) kc_195_287 rfl ?_
  obtain ⟨v55, ev55⟩ : ∃ q : Int32, x4 + 6 = q := ⟨_, rfl⟩
  have zv55 : v55.toInt = (x4.toInt + 6) := by rw [← ev55]; exact (xz_add (X := x4.toInt) (Y := 6) rfl (by decide) (by omega) (by omega)).trans (by omega)
  refine xi_iinc (pc' := 1504) (x := x4) (v := v55) (lv' := [(4, .int v55), (3, .ref 167), (2, .ref 115), (1, .ref 0), (0, .ref 1000000)]) kc_195_1501 rfl rfl ev55 rfl (xm_lt ml_195 rfl) ?_
  refine xi_goto (pc' := 23) kc_195_1504 rfl ?_
  exact kk v55 hh33 (by omega) K35
set_option maxHeartbeats 8000000 in
theorem lc_2 {J : xe_J} {ov : List (List Int32)} (hJ : ∀ d mj as h, mj ≠ xe_loff → J d mj as h = none) (hov1 : ov[1]? = some [10, 0, 0, 0, 0, 0]) (hov2 : ov[2]? = some [99, 30, 50, 50, 1, 99999]) {xs : List Int32} (hov0 : ov[0]? = some xs) {Q : Option Value → xe_H → Prop} {h : xe_H} {x4 : Int32} (hi0 : 0 ≤ x4.toInt) (hi1 : x4.toInt + 6 ≤ xs.length) (hi2 : x4.toInt ≤ 3066) (T : xt h) (I : xI h) (kk : ∀ (i : Int32) (h' : xe_H), i.toInt = x4.toInt + 6 → xk [] h h' → xI h' → xw J ov 100 195 (23, [(4, .int i), (3, .ref 167), (2, .ref 115), (1, .ref 0), (0, .ref 1000000)], [], h') Q) : xw J ov 100 195 (290, [(4, .int x4), (3, .ref 167), (2, .ref 115), (1, .ref 0), (0, .ref 1000000)], [], h) Q := by
  have K : xk [] h h := xk_re T
  obtain ⟨y1, A1, hy1, ry1⟩ := xk_arr K.1 xD_6
  obtain ⟨y2, A2, hy2, ry2⟩ := xk_arr K.1 xD_123
  have H0 := xE_of I.1 A1 A2
  obtain ⟨y3, A3, hy3, ry3⟩ := xk_arr K.1 xD_9
  obtain ⟨y4, A4, hy4, ry4⟩ := xk_arr K.1 xD_124
  have H1 := xE_of I.2.1 A3 A4
  obtain ⟨y5, A5, hy5, ry5⟩ := xk_arr K.1 xD_7
  have H2 := xL_of I.2.2.1 A5 A1
  obtain ⟨y6, A6, hy6, ry6⟩ := xk_arr K.1 xD_10
  have H3 := xL_of I.2.2.2.1 A6 A3
  obtain ⟨u7, bu7, A8⟩ := xq_5 K.1
  have ee4 : u7 = 5 := xl_cst I.2.2.2.2.1 A8 rfl
  subst ee4
  obtain ⟨u9, bu9, A10⟩ := xq_8 K.1
  have ee5 : u9 = 0 := xl_cst I.2.2.2.2.2 A10 rfl
  subst ee5
  refine xi_aload_n (pc' := 291) (x := 0) kc_195_290 rfl rfl ?_
  refine xi_aload_n (pc' := 292) (x := 1000000) kc_195_291 rfl rfl ?_
  refine xi_iload (pc' := 294) (x := x4) kc_195_292 rfl rfl ?_
  refine xi_iconst (pc' := 295) (v := 1) kc_195_294 rfl rfl ?_
  obtain ⟨v11, ev11⟩ : ∃ q : Int32, x4 + 1 = q := ⟨_, rfl⟩
  have zv11 : v11.toInt = (x4.toInt + 1) := by rw [← ev11]; exact (xz_add (X := x4.toInt) (Y := 1) rfl (by decide) (by omega) (by omega)).trans (by omega)
  refine xi_iadd (pc' := 296) (v := v11) kc_195_295 rfl ev11 ?_
  obtain ⟨a12, ea12⟩ : ∃ q : Int32, xs.getD (Int32.toNatClampNeg v11) 0 = q := ⟨_, rfl⟩
  have ra12 := xc_rng a12
  refine xi_ialoadO (pc' := 297) (v := a12) kc_195_296 rfl (by decide) hov0 (xi_in (by omega) (by omega)) ea12 ?_
  refine xi_aload_n (pc' := 298) (x := 1000000) kc_195_297 rfl rfl ?_
  refine xi_iload (pc' := 300) (x := x4) kc_195_298 rfl rfl ?_
  refine xi_iconst (pc' := 301) (v := 2) kc_195_300 rfl rfl ?_
  obtain ⟨v13, ev13⟩ : ∃ q : Int32, x4 + 2 = q := ⟨_, rfl⟩
  have zv13 : v13.toInt = (x4.toInt + 2) := by rw [← ev13]; exact (xz_add (X := x4.toInt) (Y := 2) rfl (by decide) (by omega) (by omega)).trans (by omega)
  refine xi_iadd (pc' := 302) (v := v13) kc_195_301 rfl ev13 ?_
  obtain ⟨a14, ea14⟩ : ∃ q : Int32, xs.getD (Int32.toNatClampNeg v13) 0 = q := ⟨_, rfl⟩
  have ra14 := xc_rng a14
  refine xi_ialoadO (pc' := 303) (v := a14) kc_195_302 rfl (by decide) hov0 (xi_in (by omega) (by omega)) ea14 ?_
  refine xi_aload_n (pc' := 304) (x := 1000000) kc_195_303 rfl rfl ?_
  refine xi_iload (pc' := 306) (x := x4) kc_195_304 rfl rfl ?_
  refine xi_iconst (pc' := 307) (v := 3) kc_195_306 rfl rfl ?_
  obtain ⟨v15, ev15⟩ : ∃ q : Int32, x4 + 3 = q := ⟨_, rfl⟩
  have zv15 : v15.toInt = (x4.toInt + 3) := by rw [← ev15]; exact (xz_add (X := x4.toInt) (Y := 3) rfl (by decide) (by omega) (by omega)).trans (by omega)
  refine xi_iadd (pc' := 308) (v := v15) kc_195_307 rfl ev15 ?_
  obtain ⟨a16, ea16⟩ : ∃ q : Int32, xs.getD (Int32.toNatClampNeg v15) 0 = q := ⟨_, rfl⟩
  have ra16 := xc_rng a16
  refine xi_ialoadO (pc' := 309) (v := a16) kc_195_308 rfl (by decide) hov0 (xi_in (by omega) (by omega)) ea16 ?_
  obtain ⟨u17, u18, bu17, bu18, A19⟩ := xq_0 K.1
  refine xi_virtual (mj := 95) (as := [.int a12, .int a14, .int a16]) (st1 := []) (lv0 := [(0, .ref 0), (1, .int a12), (2, .int a14), (3, .int a16)]) kc_195_309 rfl rfl rfl rfl rfl A19 (Nat.le_of_ble_eq_true rfl) (hJ _ _ _ _ (by decide)) (xm_le ml_95 rfl) rfl ?_
  refine xi_iload_n (pc' := 1) (x := a14) kc_95_0 rfl rfl ?_
  by_cases c20 : a14.toInt = 0
  · refine xi_ift (pc' := 16) kc_95_1 rfl (xc_eq_t (X := a14.toInt) (Y := 0) rfl (by decide) (by omega)) ?_
    refine xi_iload_n (pc' := 17) (x := a14) kc_95_16 rfl rfl ?_
    refine xi_iff (pc' := 20) kc_95_17 rfl (xc_ne_f (X := a14.toInt) (Y := 0) rfl (by decide) (by omega)) ?_
    refine xi_bipush (pc' := 22) (v := (-20)) kc_95_20 rfl rfl ?_
    refine xi_goto (pc' := 26) kc_95_22 rfl ?_
    refine xi_istore (pc' := 28) (lv' := [(4, .int (-20)), (0, .ref 0), (1, .int a12), (2, .int a14), (3, .int a16)]) kc_95_26 rfl rfl (xm_lt ml_95 rfl) ?_
    refine xi_iload_n (pc' := 29) (x := a14) kc_95_28 rfl rfl ?_
    refine xi_iff (pc' := 32) kc_95_29 rfl (xc_ne_f (X := a14.toInt) (Y := 0) rfl (by decide) (by omega)) ?_
    refine xi_bipush (pc' := 34) (v := 30) kc_95_32 rfl rfl ?_
    refine xi_goto (pc' := 39) kc_95_34 rfl ?_
    refine xi_istore (pc' := 41) (lv' := [(5, .int 30), (4, .int (-20)), (0, .ref 0), (1, .int a12), (2, .int a14), (3, .int a16)]) kc_95_39 rfl rfl (xm_lt ml_95 rfl) ?_
    refine xi_iload_n (pc' := 42) (x := a12) kc_95_41 rfl rfl ?_
    by_cases c21 : a12.toInt < 0
    · refine xi_ift (pc' := 51) kc_95_42 rfl (xc_lt_t (X := a12.toInt) (Y := 0) rfl (by decide) (by omega)) ?_
      refine xi_aload_n (pc' := 52) (x := 0) kc_95_51 rfl rfl ?_
      refine xi_bipush (pc' := 54) (v := (-4)) kc_95_52 rfl rfl ?_
      refine xi_virtual (mj := 96) (as := [.int (-4)]) (st1 := []) (lv0 := [(0, .ref 0), (1, .int (-4))]) kc_95_54 rfl rfl rfl rfl rfl A19 (Nat.le_of_ble_eq_true rfl) (hJ _ _ _ _ (by decide)) (xm_le ml_96 rfl) rfl ?_
      refine xi_ldc_w (pc' := 3) (v := 1000000000) kc_96_0 rfl rfl ?_
      refine xi_aload_n (pc' := 4) (x := 0) kc_96_3 rfl rfl ?_
      refine xi_iload_n (pc' := 5) (x := (-4)) kc_96_4 rfl rfl ?_
      refine xi_virtual (mj := 90) (as := [.int (-4)]) (st1 := [.int 1000000000]) (lv0 := [(0, .ref 0), (1, .int (-4))]) kc_96_5 rfl rfl rfl rfl rfl A19 (Nat.le_of_ble_eq_true rfl) (hJ _ _ _ _ (by decide)) (xm_le ml_90 rfl) rfl ?_
      refine xi_iload_n (pc' := 1) (x := (-4)) kc_90_0 rfl rfl ?_
      refine xi_ineg (pc' := 2) (v := 4) kc_90_1 rfl rfl ?_
      refine xi_istore_n (pc' := 3) (lv' := [(2, .int 4), (0, .ref 0), (1, .int (-4))]) kc_90_2 rfl rfl (xm_lt ml_90 rfl) ?_
      refine xi_iload_n (pc' := 4) (x := 4) kc_90_3 rfl rfl ?_
      refine xi_iff (pc' := 7) kc_90_4 rfl rfl ?_
      refine xi_iload_n (pc' := 8) (x := 4) kc_90_7 rfl rfl ?_
      refine xi_aload_n (pc' := 9) (x := 0) kc_90_8 rfl rfl ?_
      refine xi_getfield (pc' := 12) (v := .ref 94) kc_90_9 rfl rfl rfl A19 rfl ?_
      obtain ⟨y22, A22, hy22, ry22⟩ := xk_arr K.1 xD_94
      refine xi_arraylength (pc' := 13) (n := 7) (v := 7) kc_90_12 rfl (xl_lenI (by decide) (by decide) A22 hy22) rfl ?_
      refine xi_cmf (pc' := 16) kc_90_13 rfl rfl ?_
      refine xi_aload_n (pc' := 17) (x := 0) kc_90_16 rfl rfl ?_
      refine xi_getfield (pc' := 20) (v := .ref 94) kc_90_17 rfl rfl rfl A19 rfl ?_
      refine xi_iload_n (pc' := 21) (x := 4) kc_90_20 rfl rfl ?_
      refine xi_dup2 (pc' := 22) kc_90_21 rfl ⟨rfl, rfl⟩ ?_
      obtain ⟨v23, ev23, bv23, dv23⟩ := xj_get hy22 ry22 (i := 4) (by decide) (by decide)
      refine xi_iaload (pc' := 23) (v := v23) kc_90_22 rfl A22 (by decide) rfl (xi_in (by decide) (by rw [hy22]; decide)) ev23 ?_
      refine xi_iconst (pc' := 24) (v := 1) kc_90_23 rfl rfl ?_
      obtain ⟨v24, ev24⟩ : ∃ q : Int32, (v23 : Int32) + 1 = q := ⟨_, rfl⟩
      have rv24 := xc_rng v24
      refine xi_iadd (pc' := 25) (v := v24) kc_90_24 rfl ev24 ?_
      obtain ⟨y25, s25, hy25, ry25⟩ := xj_set (v := v24) hy22 ry22 4 (by first | omega | decide) (by first | omega | decide)
      refine xi_iastore (pc' := 26) (x' := y25) kc_90_25 rfl A22 rfl (xi_in (by decide) (by rw [hy22]; decide)) s25 (fun hh25 eh25 => ?_)
      have K26 := xk_pa K (xk_wa rfl) xD_94 hy25 ry25 eh25
      refine xi_iload_n (pc' := 27) (x := (-4)) kc_90_26 rfl rfl ?_
      refine xi_ireturn kc_90_27 mr_90 rfl ?_
      show xw J ov 98 96 (8, [(0, .ref 0), (1, .int (-4))], [.int (-4), .int 1000000000], hh25) _
      refine xi_isub (pc' := 9) (v := 1000000004) kc_96_8 rfl rfl ?_
      refine xi_ireturn kc_96_9 mr_96 rfl ?_
      show xw J ov 99 95 (57, [(5, .int 30), (4, .int (-20)), (0, .ref 0), (1, .int a12), (2, .int a14), (3, .int a16)], [.int 1000000004], hh25) _
      refine xi_ireturn kc_95_57 mr_95 rfl ?_
      show xw J ov 100 195 (312, [(4, .int x4), (3, .ref 167), (2, .ref 115), (1, .ref 0), (0, .ref 1000000)], [.int 1000000004], hh25) _
      refine xi_aload_n (pc' := 313) (x := 115) kc_195_312 rfl rfl ?_
      refine xi_aload_n (pc' := 314) (x := 1000000) kc_195_313 rfl rfl ?_
      refine xi_iload (pc' := 316) (x := x4) kc_195_314 rfl rfl ?_
      refine xi_iconst (pc' := 317) (v := 1) kc_195_316 rfl rfl ?_
      refine xi_iadd (pc' := 318) (v := v11) kc_195_317 rfl ev11 ?_
      refine xi_ialoadO (pc' := 319) (v := a12) kc_195_318 rfl (by decide) hov0 (xi_in (by omega) (by omega)) ea12 ?_
      refine xi_aload_n (pc' := 320) (x := 1000000) kc_195_319 rfl rfl ?_
      refine xi_iload (pc' := 322) (x := x4) kc_195_320 rfl rfl ?_
      refine xi_iconst (pc' := 323) (v := 2) kc_195_322 rfl rfl ?_
      refine xi_iadd (pc' := 324) (v := v13) kc_195_323 rfl ev13 ?_
      refine xi_ialoadO (pc' := 325) (v := a14) kc_195_324 rfl (by decide) hov0 (xi_in (by omega) (by omega)) ea14 ?_
      refine xi_aload_n (pc' := 326) (x := 1000000) kc_195_325 rfl rfl ?_
      refine xi_iload (pc' := 328) (x := x4) kc_195_326 rfl rfl ?_
      refine xi_iconst (pc' := 329) (v := 3) kc_195_328 rfl rfl ?_
      refine xi_iadd (pc' := 330) (v := v15) kc_195_329 rfl ev15 ?_
      refine xi_ialoadO (pc' := 331) (v := a16) kc_195_330 rfl (by decide) hov0 (xi_in (by omega) (by omega)) ea16 ?_
      obtain ⟨u27, u28, u29, u30, u31, u32, u33, u34, u35, u36, u37, u38, u39, bu27, bu28, bu29, bu30, bu31, bu32, bu33, bu34, bu35, bu36, bu37, bu38, bu39, A40⟩ := xq_115 K.1
      have A41 := ((eh25.2.1 115 (by decide)).trans A40)
      refine xi_virtual (mj := 16) (as := [.int a12, .int a14, .int a16]) (st1 := [.int 1000000004]) (lv0 := [(0, .ref 115), (1, .int a12), (2, .int a14), (3, .int a16)]) kc_195_331 rfl rfl rfl rfl rfl A41 (Nat.le_of_ble_eq_true rfl) (hJ _ _ _ _ (by decide)) (xm_le ml_16 rfl) rfl ?_
      refine xi_aload_n (pc' := 1) (x := 115) kc_16_0 rfl rfl ?_
      refine xi_iconst (pc' := 2) (v := 0) kc_16_1 rfl rfl ?_
      refine xi_putfield (pc' := 5) (fs' := [.int 0, .int u28, .ref 116, .ref 117, .ref 118, .ref 119, .ref 120, .ref 121, .ref 122, .ref 123, .ref 124, .ref 125, .ref 126, .ref 127, .ref 128, .ref 129, .int u29, .ref 130, .int u30, .ref 131, .ref 132, .ref 133, .ref 134, .int u31, .ref 135, .ref 136, .ref 137, .ref 138, .ref 139, .ref 140, .ref 141, .ref 142, .int u32, .int u33, .int u34, .ref 143, .ref 144, .ref 145, .ref 146, .ref 147, .ref 148, .int u35, .ref 149, .ref 150, .ref 151, .int u36, .ref 152, .ref 153, .ref 154, .ref 155, .ref 156, .ref 157, .ref 158, .ref 159, .int u37, .ref 160, .int u38, .ref 161, .ref 162, .ref 163, .ref 164, .int u39, .ref 165, .ref 166]) kc_16_2 rfl rfl rfl A41 rfl rfl rfl (Nat.le_of_ble_eq_true rfl) rfl (fun hh43 eh42 => ?_)
      have K44 := xk_pf (k := 0) (v := 0) K26 (xk_wf rfl) xD_115 A41 rfl (by first | omega | decide) (by first | omega | decide) eh42 rfl
      refine xi_iload_n (pc' := 6) (x := a14) kc_16_5 rfl rfl ?_
      refine xi_iconst (pc' := 7) (v := 0) kc_16_6 rfl rfl ?_
      refine xi_iconst (pc' := 8) (v := 1) kc_16_7 rfl rfl ?_
      refine xi_static (mj := 11) (as := [.int a14, .int 0, .int 1]) (st1 := []) (lv0 := [(0, .int a14), (1, .int 0), (2, .int 1)]) kc_16_8 rfl rfl (Nat.le_of_ble_eq_true rfl) rfl rfl (Nat.le_of_ble_eq_true rfl) (hJ _ _ _ _ (by decide)) (xm_le ml_11 rfl) rfl ?_
      refine xi_iload_n (pc' := 1) (x := a14) kc_11_0 rfl rfl ?_
      refine xi_iload_n (pc' := 2) (x := 0) kc_11_1 rfl rfl ?_
      refine xi_cmf (pc' := 5) kc_11_2 rfl (xc_lt_f (X := a14.toInt) (Y := 0) rfl (by decide) (by omega)) ?_
      refine xi_iload_n (pc' := 6) (x := a14) kc_11_5 rfl rfl ?_
      refine xi_iload_n (pc' := 7) (x := 1) kc_11_6 rfl rfl ?_
      refine xi_cmf (pc' := 10) kc_11_7 rfl (xc_gt_f (X := a14.toInt) (Y := 1) rfl (by decide) (by omega)) ?_
      refine xi_iconst (pc' := 11) (v := 1) kc_11_10 rfl rfl ?_
      refine xi_goto (pc' := 15) kc_11_11 rfl ?_
      refine xi_ireturn kc_11_15 mr_11 rfl ?_
      show xw J ov 99 16 (11, [(0, .ref 115), (1, .int a12), (2, .int a14), (3, .int a16)], [.int 1], hh43) _
      refine xi_ift (pc' := 21) kc_16_11 rfl rfl ?_
      refine xi_iload_n (pc' := 22) (x := a12) kc_16_21 rfl rfl ?_
      refine xi_ift (pc' := 39) kc_16_22 rfl (xc_lt_t (X := a12.toInt) (Y := 0) rfl (by decide) (by omega)) ?_
      refine xi_aload_n (pc' := 40) (x := 115) kc_16_39 rfl rfl ?_
      refine xi_bipush (pc' := 42) (v := (-4)) kc_16_40 rfl rfl ?_
      refine xi_virtual (mj := 17) (as := [.int (-4)]) (st1 := []) (lv0 := [(0, .ref 115), (1, .int (-4))]) kc_16_42 rfl rfl rfl rfl rfl eh42.1 (Nat.le_of_ble_eq_true rfl) (hJ _ _ _ _ (by decide)) (xm_le ml_17 rfl) rfl ?_
      refine xi_aload_n (pc' := 1) (x := 115) kc_17_0 rfl rfl ?_
      refine xi_getfield (pc' := 4) (v := .ref 140) kc_17_1 rfl rfl rfl eh42.1 rfl ?_
      refine xi_iload_n (pc' := 5) (x := (-4)) kc_17_4 rfl rfl ?_
      refine xi_ineg (pc' := 6) (v := 4) kc_17_5 rfl rfl ?_
      refine xi_dup2 (pc' := 7) kc_17_6 rfl ⟨rfl, rfl⟩ ?_
      obtain ⟨y45, A45, hy45, ry45⟩ := xk_arr K.1 xD_140
      obtain ⟨v46, ev46, bv46, dv46⟩ := xj_get hy45 ry45 (i := 4) (by decide) (by decide)
      have A47 := ((eh42.2.1 140 (by decide)).trans ((eh25.2.1 140 (by decide)).trans A45))
      refine xi_iaload (pc' := 8) (v := v46) kc_17_7 rfl A47 (by decide) rfl (xi_in (by decide) (by rw [hy45]; decide)) ev46 ?_
      refine xi_iconst (pc' := 9) (v := 1) kc_17_8 rfl rfl ?_
      obtain ⟨v48, ev48⟩ : ∃ q : Int32, (v46 : Int32) + 1 = q := ⟨_, rfl⟩
      have rv48 := xc_rng v48
      refine xi_iadd (pc' := 10) (v := v48) kc_17_9 rfl ev48 ?_
      obtain ⟨y49, s49, hy49, ry49⟩ := xj_set (v := v48) hy45 ry45 4 (by first | omega | decide) (by first | omega | decide)
      refine xi_iastore (pc' := 11) (x' := y49) kc_17_10 rfl A47 rfl (xi_in (by decide) (by rw [hy45]; decide)) s49 (fun hh49 eh49 => ?_)
      have K50 := xk_pa K44 (xk_wa rfl) xD_140 hy49 ry49 eh49
      refine xi_ldc (pc' := 13) (v := 1000000000) kc_17_11 rfl rfl ?_
      refine xi_iload_n (pc' := 14) (x := (-4)) kc_17_13 rfl rfl ?_
      refine xi_isub (pc' := 15) (v := 1000000004) kc_17_14 rfl rfl ?_
      refine xi_ireturn kc_17_15 mr_17 rfl ?_
      show xw J ov 99 16 (45, [(0, .ref 115), (1, .int a12), (2, .int a14), (3, .int a16)], [.int 1000000004], hh49) _
      refine xi_ireturn kc_16_45 mr_16 rfl ?_
      show xw J ov 100 195 (334, [(4, .int x4), (3, .ref 167), (2, .ref 115), (1, .ref 0), (0, .ref 1000000)], [.int 1000000004, .int 1000000004], hh49) _
      refine xi_cmt (pc' := 1501) kc_195_334 rfl rfl ?_
      obtain ⟨v51, ev51⟩ : ∃ q : Int32, x4 + 6 = q := ⟨_, rfl⟩
      have zv51 : v51.toInt = (x4.toInt + 6) := by rw [← ev51]; exact (xz_add (X := x4.toInt) (Y := 6) rfl (by decide) (by omega) (by omega)).trans (by omega)
      refine xi_iinc (pc' := 1504) (x := x4) (v := v51) (lv' := [(4, .int v51), (3, .ref 167), (2, .ref 115), (1, .ref 0), (0, .ref 1000000)]) kc_195_1501 rfl rfl ev51 rfl (xm_lt ml_195 rfl) ?_
      refine xi_goto (pc' := 23) kc_195_1504 rfl ?_
      have A52 := ((eh49.2.1 6 (by decide)).trans ((eh42.2.1 6 (by decide)).trans ((eh25.2.1 6 (by decide)).trans A1)))
      have A53 := ((eh49.2.1 123 (by decide)).trans ((eh42.2.1 123 (by decide)).trans ((eh25.2.1 123 (by decide)).trans A2)))
      have A54 := ((eh49.2.1 9 (by decide)).trans ((eh42.2.1 9 (by decide)).trans ((eh25.2.1 9 (by decide)).trans A3)))
      have A55 := ((eh49.2.1 124 (by decide)).trans ((eh42.2.1 124 (by decide)).trans ((eh25.2.1 124 (by decide)).trans A4)))
      have A56 := ((eh49.2.1 7 (by decide)).trans ((eh42.2.1 7 (by decide)).trans ((eh25.2.1 7 (by decide)).trans A5)))
      have A57 := ((eh49.2.1 10 (by decide)).trans ((eh42.2.1 10 (by decide)).trans ((eh25.2.1 10 (by decide)).trans A6)))
      have A58 := ((eh49.2.1 5 (by decide)).trans ((eh42.2.1 5 (by decide)).trans ((eh25.2.1 5 (by decide)).trans A8)))
      have A59 := ((eh49.2.1 8 (by decide)).trans ((eh42.2.1 8 (by decide)).trans ((eh25.2.1 8 (by decide)).trans A10)))
      exact kk v51 hh49 (by omega) K50 ⟨(xE_mk A52 A53 H0), (xE_mk A54 A55 H1), (xL_mk A56 A52 H2), (xL_mk A57 A54 H3), (xl_of A58 rfl), (xl_of A59 rfl)⟩
    · refine xi_iff (pc' := 45) kc_95_42 rfl (xc_lt_f (X := a12.toInt) (Y := 0) rfl (by decide) (by omega)) ?_
      refine xi_iload_n (pc' := 46) (x := a16) kc_95_45 rfl rfl ?_
      refine xi_iload (pc' := 48) (x := (-20)) kc_95_46 rfl rfl ?_
      by_cases c60 : (-20) ≤ a16.toInt
      · refine xi_cmt (pc' := 58) kc_95_48 rfl (xc_ge_t (X := a16.toInt) (Y := (-20)) rfl (by decide) (by omega)) ?_
        refine xi_iload_n (pc' := 59) (x := a12) kc_95_58 rfl rfl ?_
        refine xi_sipush (pc' := 62) (v := 600) kc_95_59 rfl rfl ?_
        by_cases c61 : 600 ≤ a12.toInt
        · refine xi_cmt (pc' := 77) kc_95_62 rfl (xc_ge_t (X := a12.toInt) (Y := 600) rfl (by decide) (by omega)) ?_
          refine xi_aload_n (pc' := 78) (x := 0) kc_95_77 rfl rfl ?_
          refine xi_bipush (pc' := 80) (v := (-6)) kc_95_78 rfl rfl ?_
          refine xi_virtual (mj := 96) (as := [.int (-6)]) (st1 := []) (lv0 := [(0, .ref 0), (1, .int (-6))]) kc_95_80 rfl rfl rfl rfl rfl A19 (Nat.le_of_ble_eq_true rfl) (hJ _ _ _ _ (by decide)) (xm_le ml_96 rfl) rfl ?_
          refine xi_ldc_w (pc' := 3) (v := 1000000000) kc_96_0 rfl rfl ?_
          refine xi_aload_n (pc' := 4) (x := 0) kc_96_3 rfl rfl ?_
          refine xi_iload_n (pc' := 5) (x := (-6)) kc_96_4 rfl rfl ?_
          refine xi_virtual (mj := 90) (as := [.int (-6)]) (st1 := [.int 1000000000]) (lv0 := [(0, .ref 0), (1, .int (-6))]) kc_96_5 rfl rfl rfl rfl rfl A19 (Nat.le_of_ble_eq_true rfl) (hJ _ _ _ _ (by decide)) (xm_le ml_90 rfl) rfl ?_
          refine xi_iload_n (pc' := 1) (x := (-6)) kc_90_0 rfl rfl ?_
          refine xi_ineg (pc' := 2) (v := 6) kc_90_1 rfl rfl ?_
          refine xi_istore_n (pc' := 3) (lv' := [(2, .int 6), (0, .ref 0), (1, .int (-6))]) kc_90_2 rfl rfl (xm_lt ml_90 rfl) ?_
          refine xi_iload_n (pc' := 4) (x := 6) kc_90_3 rfl rfl ?_
          refine xi_iff (pc' := 7) kc_90_4 rfl rfl ?_
          refine xi_iload_n (pc' := 8) (x := 6) kc_90_7 rfl rfl ?_
          refine xi_aload_n (pc' := 9) (x := 0) kc_90_8 rfl rfl ?_
          refine xi_getfield (pc' := 12) (v := .ref 94) kc_90_9 rfl rfl rfl A19 rfl ?_
          obtain ⟨y62, A62, hy62, ry62⟩ := xk_arr K.1 xD_94
          refine xi_arraylength (pc' := 13) (n := 7) (v := 7) kc_90_12 rfl (xl_lenI (by decide) (by decide) A62 hy62) rfl ?_
          refine xi_cmf (pc' := 16) kc_90_13 rfl rfl ?_
          refine xi_aload_n (pc' := 17) (x := 0) kc_90_16 rfl rfl ?_
          refine xi_getfield (pc' := 20) (v := .ref 94) kc_90_17 rfl rfl rfl A19 rfl ?_
          refine xi_iload_n (pc' := 21) (x := 6) kc_90_20 rfl rfl ?_
          refine xi_dup2 (pc' := 22) kc_90_21 rfl ⟨rfl, rfl⟩ ?_
          obtain ⟨v63, ev63, bv63, dv63⟩ := xj_get hy62 ry62 (i := 6) (by decide) (by decide)
          refine xi_iaload (pc' := 23) (v := v63) kc_90_22 rfl A62 (by decide) rfl (xi_in (by decide) (by rw [hy62]; decide)) ev63 ?_
          refine xi_iconst (pc' := 24) (v := 1) kc_90_23 rfl rfl ?_
          obtain ⟨v64, ev64⟩ : ∃ q : Int32, (v63 : Int32) + 1 = q := ⟨_, rfl⟩
          have rv64 := xc_rng v64
          refine xi_iadd (pc' := 25) (v := v64) kc_90_24 rfl ev64 ?_
          obtain ⟨y65, s65, hy65, ry65⟩ := xj_set (v := v64) hy62 ry62 6 (by first | omega | decide) (by first | omega | decide)
          refine xi_iastore (pc' := 26) (x' := y65) kc_90_25 rfl A62 rfl (xi_in (by decide) (by rw [hy62]; decide)) s65 (fun hh65 eh65 => ?_)
          have K66 := xk_pa K (xk_wa rfl) xD_94 hy65 ry65 eh65
          refine xi_iload_n (pc' := 27) (x := (-6)) kc_90_26 rfl rfl ?_
          refine xi_ireturn kc_90_27 mr_90 rfl ?_
          show xw J ov 98 96 (8, [(0, .ref 0), (1, .int (-6))], [.int (-6), .int 1000000000], hh65) _
          refine xi_isub (pc' := 9) (v := 1000000006) kc_96_8 rfl rfl ?_
          refine xi_ireturn kc_96_9 mr_96 rfl ?_
          show xw J ov 99 95 (83, [(5, .int 30), (4, .int (-20)), (0, .ref 0), (1, .int a12), (2, .int a14), (3, .int a16)], [.int 1000000006], hh65) _
          refine xi_ireturn kc_95_83 mr_95 rfl ?_
          show xw J ov 100 195 (312, [(4, .int x4), (3, .ref 167), (2, .ref 115), (1, .ref 0), (0, .ref 1000000)], [.int 1000000006], hh65) _
          refine xi_aload_n (pc' := 313) (x := 115) kc_195_312 rfl rfl ?_
          refine xi_aload_n (pc' := 314) (x := 1000000) kc_195_313 rfl rfl ?_
          refine xi_iload (pc' := 316) (x := x4) kc_195_314 rfl rfl ?_
          refine xi_iconst (pc' := 317) (v := 1) kc_195_316 rfl rfl ?_
          refine xi_iadd (pc' := 318) (v := v11) kc_195_317 rfl ev11 ?_
          refine xi_ialoadO (pc' := 319) (v := a12) kc_195_318 rfl (by decide) hov0 (xi_in (by omega) (by omega)) ea12 ?_
          refine xi_aload_n (pc' := 320) (x := 1000000) kc_195_319 rfl rfl ?_
          refine xi_iload (pc' := 322) (x := x4) kc_195_320 rfl rfl ?_
          refine xi_iconst (pc' := 323) (v := 2) kc_195_322 rfl rfl ?_
          refine xi_iadd (pc' := 324) (v := v13) kc_195_323 rfl ev13 ?_
          refine xi_ialoadO (pc' := 325) (v := a14) kc_195_324 rfl (by decide) hov0 (xi_in (by omega) (by omega)) ea14 ?_
          refine xi_aload_n (pc' := 326) (x := 1000000) kc_195_325 rfl rfl ?_
          refine xi_iload (pc' := 328) (x := x4) kc_195_326 rfl rfl ?_
          refine xi_iconst (pc' := 329) (v := 3) kc_195_328 rfl rfl ?_
          refine xi_iadd (pc' := 330) (v := v15) kc_195_329 rfl ev15 ?_
          refine xi_ialoadO (pc' := 331) (v := a16) kc_195_330 rfl (by decide) hov0 (xi_in (by omega) (by omega)) ea16 ?_
          obtain ⟨u67, u68, u69, u70, u71, u72, u73, u74, u75, u76, u77, u78, u79, bu67, bu68, bu69, bu70, bu71, bu72, bu73, bu74, bu75, bu76, bu77, bu78, bu79, A80⟩ := xq_115 K.1
          have A81 := ((eh65.2.1 115 (by decide)).trans A80)
          refine xi_virtual (mj := 16) (as := [.int a12, .int a14, .int a16]) (st1 := [.int 1000000006]) (lv0 := [(0, .ref 115), (1, .int a12), (2, .int a14), (3, .int a16)]) kc_195_331 rfl rfl rfl rfl rfl A81 (Nat.le_of_ble_eq_true rfl) (hJ _ _ _ _ (by decide)) (xm_le ml_16 rfl) rfl ?_
          refine xi_aload_n (pc' := 1) (x := 115) kc_16_0 rfl rfl ?_
          refine xi_iconst (pc' := 2) (v := 0) kc_16_1 rfl rfl ?_
          refine xi_putfield (pc' := 5) (fs' := [.int 0, .int u68, .ref 116, .ref 117, .ref 118, .ref 119, .ref 120, .ref 121, .ref 122, .ref 123, .ref 124, .ref 125, .ref 126, .ref 127, .ref 128, .ref 129, .int u69, .ref 130, .int u70, .ref 131, .ref 132, .ref 133, .ref 134, .int u71, .ref 135, .ref 136, .ref 137, .ref 138, .ref 139, .ref 140, .ref 141, .ref 142, .int u72, .int u73, .int u74, .ref 143, .ref 144, .ref 145, .ref 146, .ref 147, .ref 148, .int u75, .ref 149, .ref 150, .ref 151, .int u76, .ref 152, .ref 153, .ref 154, .ref 155, .ref 156, .ref 157, .ref 158, .ref 159, .int u77, .ref 160, .int u78, .ref 161, .ref 162, .ref 163, .ref 164, .int u79, .ref 165, .ref 166]) kc_16_2 rfl rfl rfl A81 rfl rfl rfl (Nat.le_of_ble_eq_true rfl) rfl (fun hh83 eh82 => ?_)
          have K84 := xk_pf (k := 0) (v := 0) K66 (xk_wf rfl) xD_115 A81 rfl (by first | omega | decide) (by first | omega | decide) eh82 rfl
          refine xi_iload_n (pc' := 6) (x := a14) kc_16_5 rfl rfl ?_
          refine xi_iconst (pc' := 7) (v := 0) kc_16_6 rfl rfl ?_
          refine xi_iconst (pc' := 8) (v := 1) kc_16_7 rfl rfl ?_
          refine xi_static (mj := 11) (as := [.int a14, .int 0, .int 1]) (st1 := []) (lv0 := [(0, .int a14), (1, .int 0), (2, .int 1)]) kc_16_8 rfl rfl (Nat.le_of_ble_eq_true rfl) rfl rfl (Nat.le_of_ble_eq_true rfl) (hJ _ _ _ _ (by decide)) (xm_le ml_11 rfl) rfl ?_
          refine xi_iload_n (pc' := 1) (x := a14) kc_11_0 rfl rfl ?_
          refine xi_iload_n (pc' := 2) (x := 0) kc_11_1 rfl rfl ?_
          refine xi_cmf (pc' := 5) kc_11_2 rfl (xc_lt_f (X := a14.toInt) (Y := 0) rfl (by decide) (by omega)) ?_
          refine xi_iload_n (pc' := 6) (x := a14) kc_11_5 rfl rfl ?_
          refine xi_iload_n (pc' := 7) (x := 1) kc_11_6 rfl rfl ?_
          refine xi_cmf (pc' := 10) kc_11_7 rfl (xc_gt_f (X := a14.toInt) (Y := 1) rfl (by decide) (by omega)) ?_
          refine xi_iconst (pc' := 11) (v := 1) kc_11_10 rfl rfl ?_
          refine xi_goto (pc' := 15) kc_11_11 rfl ?_
          refine xi_ireturn kc_11_15 mr_11 rfl ?_
          show xw J ov 99 16 (11, [(0, .ref 115), (1, .int a12), (2, .int a14), (3, .int a16)], [.int 1], hh83) _
          refine xi_ift (pc' := 21) kc_16_11 rfl rfl ?_
          refine xi_iload_n (pc' := 22) (x := a12) kc_16_21 rfl rfl ?_
          refine xi_iff (pc' := 25) kc_16_22 rfl (xc_lt_f (X := a12.toInt) (Y := 0) rfl (by decide) (by omega)) ?_
          refine xi_iload_n (pc' := 26) (x := a16) kc_16_25 rfl rfl ?_
          refine xi_iload_n (pc' := 27) (x := a14) kc_16_26 rfl rfl ?_
          refine xi_iff (pc' := 30) kc_16_27 rfl (xc_ne_f (X := a14.toInt) (Y := 0) rfl (by decide) (by omega)) ?_
          refine xi_bipush (pc' := 32) (v := (-20)) kc_16_30 rfl rfl ?_
          refine xi_goto (pc' := 36) kc_16_32 rfl ?_
          refine xi_cmt (pc' := 46) kc_16_36 rfl (xc_ge_t (X := a16.toInt) (Y := (-20)) rfl (by decide) (by omega)) ?_
          refine xi_iload_n (pc' := 47) (x := a12) kc_16_46 rfl rfl ?_
          refine xi_sipush (pc' := 50) (v := 599) kc_16_47 rfl rfl ?_
          refine xi_cmt (pc' := 74) kc_16_50 rfl (xc_gt_t (X := a12.toInt) (Y := 599) rfl (by decide) (by omega)) ?_
          refine xi_aload_n (pc' := 75) (x := 115) kc_16_74 rfl rfl ?_
          refine xi_bipush (pc' := 77) (v := (-6)) kc_16_75 rfl rfl ?_
          refine xi_virtual (mj := 17) (as := [.int (-6)]) (st1 := []) (lv0 := [(0, .ref 115), (1, .int (-6))]) kc_16_77 rfl rfl rfl rfl rfl eh82.1 (Nat.le_of_ble_eq_true rfl) (hJ _ _ _ _ (by decide)) (xm_le ml_17 rfl) rfl ?_
          refine xi_aload_n (pc' := 1) (x := 115) kc_17_0 rfl rfl ?_
          refine xi_getfield (pc' := 4) (v := .ref 140) kc_17_1 rfl rfl rfl eh82.1 rfl ?_
          refine xi_iload_n (pc' := 5) (x := (-6)) kc_17_4 rfl rfl ?_
          refine xi_ineg (pc' := 6) (v := 6) kc_17_5 rfl rfl ?_
          refine xi_dup2 (pc' := 7) kc_17_6 rfl ⟨rfl, rfl⟩ ?_
          obtain ⟨y85, A85, hy85, ry85⟩ := xk_arr K.1 xD_140
          obtain ⟨v86, ev86, bv86, dv86⟩ := xj_get hy85 ry85 (i := 6) (by decide) (by decide)
          have A87 := ((eh82.2.1 140 (by decide)).trans ((eh65.2.1 140 (by decide)).trans A85))
          refine xi_iaload (pc' := 8) (v := v86) kc_17_7 rfl A87 (by decide) rfl (xi_in (by decide) (by rw [hy85]; decide)) ev86 ?_
          refine xi_iconst (pc' := 9) (v := 1) kc_17_8 rfl rfl ?_
          obtain ⟨v88, ev88⟩ : ∃ q : Int32, (v86 : Int32) + 1 = q := ⟨_, rfl⟩
          have rv88 := xc_rng v88
          refine xi_iadd (pc' := 10) (v := v88) kc_17_9 rfl ev88 ?_
          obtain ⟨y89, s89, hy89, ry89⟩ := xj_set (v := v88) hy85 ry85 6 (by first | omega | decide) (by first | omega | decide)
          refine xi_iastore (pc' := 11) (x' := y89) kc_17_10 rfl A87 rfl (xi_in (by decide) (by rw [hy85]; decide)) s89 (fun hh89 eh89 => ?_)
          have K90 := xk_pa K84 (xk_wa rfl) xD_140 hy89 ry89 eh89
          refine xi_ldc (pc' := 13) (v := 1000000000) kc_17_11 rfl rfl ?_
          refine xi_iload_n (pc' := 14) (x := (-6)) kc_17_13 rfl rfl ?_
          refine xi_isub (pc' := 15) (v := 1000000006) kc_17_14 rfl rfl ?_
          refine xi_ireturn kc_17_15 mr_17 rfl ?_
          show xw J ov 99 16 (80, [(0, .ref 115), (1, .int a12), (2, .int a14), (3, .int a16)], [.int 1000000006], hh89) _
          refine xi_ireturn kc_16_80 mr_16 rfl ?_
          show xw J ov 100 195 (334, [(4, .int x4), (3, .ref 167), (2, .ref 115), (1, .ref 0), (0, .ref 1000000)], [.int 1000000006, .int 1000000006], hh89) _
          refine xi_cmt (pc' := 1501) kc_195_334 rfl rfl ?_
          obtain ⟨v91, ev91⟩ : ∃ q : Int32, x4 + 6 = q := ⟨_, rfl⟩
          have zv91 : v91.toInt = (x4.toInt + 6) := by rw [← ev91]; exact (xz_add (X := x4.toInt) (Y := 6) rfl (by decide) (by omega) (by omega)).trans (by omega)
          refine xi_iinc (pc' := 1504) (x := x4) (v := v91) (lv' := [(4, .int v91), (3, .ref 167), (2, .ref 115), (1, .ref 0), (0, .ref 1000000)]) kc_195_1501 rfl rfl ev91 rfl (xm_lt ml_195 rfl) ?_
          refine xi_goto (pc' := 23) kc_195_1504 rfl ?_
          have A92 := ((eh89.2.1 6 (by decide)).trans ((eh82.2.1 6 (by decide)).trans ((eh65.2.1 6 (by decide)).trans A1)))
          have A93 := ((eh89.2.1 123 (by decide)).trans ((eh82.2.1 123 (by decide)).trans ((eh65.2.1 123 (by decide)).trans A2)))
          have A94 := ((eh89.2.1 9 (by decide)).trans ((eh82.2.1 9 (by decide)).trans ((eh65.2.1 9 (by decide)).trans A3)))
          have A95 := ((eh89.2.1 124 (by decide)).trans ((eh82.2.1 124 (by decide)).trans ((eh65.2.1 124 (by decide)).trans A4)))
          have A96 := ((eh89.2.1 7 (by decide)).trans ((eh82.2.1 7 (by decide)).trans ((eh65.2.1 7 (by decide)).trans A5)))
          have A97 := ((eh89.2.1 10 (by decide)).trans ((eh82.2.1 10 (by decide)).trans ((eh65.2.1 10 (by decide)).trans A6)))
          have A98 := ((eh89.2.1 5 (by decide)).trans ((eh82.2.1 5 (by decide)).trans ((eh65.2.1 5 (by decide)).trans A8)))
          have A99 := ((eh89.2.1 8 (by decide)).trans ((eh82.2.1 8 (by decide)).trans ((eh65.2.1 8 (by decide)).trans A10)))
          exact kk v91 hh89 (by omega) K90 ⟨(xE_mk A92 A93 H0), (xE_mk A94 A95 H1), (xL_mk A96 A92 H2), (xL_mk A97 A94 H3), (xl_of A98 rfl), (xl_of A99 rfl)⟩
        · refine xi_cmf (pc' := 65) kc_95_62 rfl (xc_ge_f (X := a12.toInt) (Y := 600) rfl (by decide) (by omega)) ?_
          refine xi_iload_n (pc' := 66) (x := a16) kc_95_65 rfl rfl ?_
          refine xi_iload (pc' := 68) (x := 30) kc_95_66 rfl rfl ?_
          by_cases c100 : a16.toInt ≤ 30
          · refine xi_cmt (pc' := 84) kc_95_68 rfl (xc_le_t (X := a16.toInt) (Y := 30) rfl (by decide) (by omega)) ?_
            refine xi_aload_n (pc' := 85) (x := 0) kc_95_84 rfl rfl ?_
            refine xi_getfield (pc' := 88) (v := .ref 66) kc_95_85 rfl rfl rfl A19 rfl ?_
            obtain ⟨u102, wl101, bu102, A103⟩ := xq_66 K.1
            refine xi_virtual (mj := 91) (as := []) (st1 := []) (lv0 := [(0, .ref 66)]) kc_95_88 rfl rfl rfl rfl rfl A103 (Nat.le_of_ble_eq_true rfl) (hJ _ _ _ _ (by decide)) (xm_le ml_91 rfl) rfl ?_
            refine xi_aload_n (pc' := 1) (x := 66) kc_91_0 rfl rfl ?_
            refine xi_lconst (pc' := 2) (v := 0) kc_91_1 rfl rfl ?_
            refine xi_putfield (pc' := 5) (fs' := [.ref 1, .ref 67, .ref 70, .ref 71, .ref 72, .ref 73, .ref 74, .long 0, .int u102]) kc_91_2 rfl rfl rfl A103 rfl rfl rfl (Nat.le_of_ble_eq_true rfl) rfl (fun hh105 eh104 => ?_)
            have K106 := xk_pl (k := 7) (v := 0) K (xk_wf rfl) xD_66 A103 rfl eh104 rfl
            refine xi_return kc_91_5 mr_91 ?_
            show xw J ov 99 95 (91, [(5, .int 30), (4, .int (-20)), (0, .ref 0), (1, .int a12), (2, .int a14), (3, .int a16)], [], hh105) _
            refine xi_aload_n (pc' := 92) (x := 0) kc_95_91 rfl rfl ?_
            have A107 := ((eh104.2.1 0 (by decide)).trans A19)
            refine xi_getfield (pc' := 95) (v := .ref 1) kc_95_92 rfl rfl rfl A107 rfl ?_
            refine xi_iload_n (pc' := 96) (x := a14) kc_95_95 rfl rfl ?_
            obtain ⟨u108, u109, bu108, bu109, A110⟩ := xq_1 K.1
            have A111 := ((eh104.2.1 1 (by decide)).trans A110)
            refine xi_virtual (mj := 97) (as := [.int a14]) (st1 := []) (lv0 := [(0, .ref 1), (1, .int a14)]) kc_95_96 rfl rfl rfl rfl rfl A111 (Nat.le_of_ble_eq_true rfl) (hJ _ _ _ _ (by decide)) (xm_le ml_97 rfl) rfl ?_
            refine xi_iload_n (pc' := 1) (x := a14) kc_97_0 rfl rfl ?_
            refine xi_iff (pc' := 4) kc_97_1 rfl (xc_ne_f (X := a14.toInt) (Y := 0) rfl (by decide) (by omega)) ?_
            refine xi_aload_n (pc' := 5) (x := 1) kc_97_4 rfl rfl ?_
            refine xi_getfield (pc' := 8) (v := .ref 5) kc_97_5 rfl rfl rfl A111 rfl ?_
            refine xi_goto (pc' := 15) kc_97_8 rfl ?_
            refine xi_areturn kc_97_15 (by rw [mr_97]; rfl) ?_
            show xw J ov 99 95 (99, [(5, .int 30), (4, .int (-20)), (0, .ref 0), (1, .int a12), (2, .int a14), (3, .int a16)], [.ref 5], hh105) _
            refine xi_iload_n (pc' := 100) (x := a12) kc_95_99 rfl rfl ?_
            refine xi_iload_n (pc' := 101) (x := a16) kc_95_100 rfl rfl ?_
            have A112 := ((eh104.2.1 5 (by decide)).trans A8)
            refine xi_virtual (mj := 98) (as := [.int a12, .int a16]) (st1 := []) (lv0 := [(0, .ref 5), (1, .int a12), (2, .int a16)]) kc_95_101 rfl rfl rfl rfl rfl A112 (Nat.le_of_ble_eq_true rfl) (hJ _ _ _ _ (by decide)) (xm_le ml_98 rfl) rfl ?_
            refine xi_iload_n (pc' := 1) (x := a12) kc_98_0 rfl rfl ?_
            refine xi_iff (pc' := 4) kc_98_1 rfl (xc_lt_f (X := a12.toInt) (Y := 0) rfl (by decide) (by omega)) ?_
            refine xi_iload_n (pc' := 5) (x := a12) kc_98_4 rfl rfl ?_
            refine xi_aload_n (pc' := 6) (x := 5) kc_98_5 rfl rfl ?_
            refine xi_getfield (pc' := 9) (v := .ref 6) kc_98_6 rfl rfl rfl A112 rfl ?_
            have A113 := ((eh104.2.1 6 (by decide)).trans A1)
            refine xi_arraylength (pc' := 10) (n := 601) (v := 601) kc_98_9 rfl (xl_lenI (by decide) (by decide) A113 hy1) rfl ?_
            refine xi_cmt (pc' := 16) kc_98_10 rfl (xc_lt_t (X := a12.toInt) (Y := 601) rfl (by decide) (by omega)) ?_
            refine xi_aload_n (pc' := 17) (x := 5) kc_98_16 rfl rfl ?_
            refine xi_getfield (pc' := 20) (v := .ref 6) kc_98_17 rfl rfl rfl A112 rfl ?_
            refine xi_iload_n (pc' := 21) (x := a12) kc_98_20 rfl rfl ?_
            obtain ⟨v114, ev114, bv114, dv114⟩ := xj_get hy1 ry1 (i := a12) (by omega) (by omega)
            refine xi_iaload (pc' := 22) (v := v114) kc_98_21 rfl A113 (by decide) rfl (xi_in (by omega) (by rw [hy1]; omega)) ev114 ?_
            refine xi_istore_n (pc' := 23) (lv' := [(3, .int v114), (0, .ref 5), (1, .int a12), (2, .int a16)]) kc_98_22 rfl rfl (xm_lt ml_98 rfl) ?_
            refine xi_aload_n (pc' := 24) (x := 5) kc_98_23 rfl rfl ?_
            refine xi_getfield (pc' := 27) (v := .ref 6) kc_98_24 rfl rfl rfl A112 rfl ?_
            refine xi_iload_n (pc' := 28) (x := a12) kc_98_27 rfl rfl ?_
            refine xi_iload_n (pc' := 29) (x := a16) kc_98_28 rfl rfl ?_
            obtain ⟨y115, s115, hy115, ry115⟩ := xj_set (v := a16) hy1 ry1 a12 (by first | omega | decide) (by first | omega | decide)
            refine xi_iastore (pc' := 30) (x' := y115) kc_98_29 rfl A113 rfl (xi_in (by omega) (by rw [hy1]; omega)) s115 (fun hh115 eh115 => ?_)
            have K116 := xk_pa K106 (xk_wa rfl) xD_6 hy115 ry115 eh115
            refine xi_aload_n (pc' := 31) (x := 5) kc_98_30 rfl rfl ?_
            refine xi_iload_n (pc' := 32) (x := a12) kc_98_31 rfl rfl ?_
            refine xi_iconst (pc' := 33) (v := 1) kc_98_32 rfl rfl ?_
            obtain ⟨v117, ev117⟩ : ∃ q : Int32, a12 - 1 = q := ⟨_, rfl⟩
            have zv117 : v117.toInt = (a12.toInt + (-1)) := by rw [← ev117]; exact (xz_sub (X := a12.toInt) (Y := 1) rfl (by decide) (by omega) (by omega)).trans (by omega)
            refine xi_isub (pc' := 34) (v := v117) kc_98_33 rfl ev117 ?_
            have A118 := ((eh115.2.1 5 (by decide)).trans A112)
            refine xi_virtual (mj := 99) (as := [.int v117]) (st1 := []) (lv0 := [(0, .ref 5), (1, .int v117)]) kc_98_34 rfl rfl rfl rfl rfl A118 (Nat.le_of_ble_eq_true rfl) (hJ _ _ _ _ (by decide)) (xm_le ml_99 rfl) rfl ?_
            refine xi_iload_n (pc' := 1) (x := v117) kc_99_0 rfl rfl ?_
            by_cases c119 : (a12.toInt + (-1)) < 0
            · refine xi_ift (pc' := 13) kc_99_1 rfl (xc_lt_t (X := (a12.toInt + (-1))) (Y := 0) zv117 (by decide) (by omega)) ?_
              refine xi_aload_n (pc' := 14) (x := 5) kc_99_13 rfl rfl ?_
              refine xi_getfield (pc' := 17) (v := .int 5) kc_99_14 rfl rfl rfl A118 rfl ?_
              refine xi_goto (pc' := 26) kc_99_17 rfl ?_
              refine xi_ireturn kc_99_26 mr_99 rfl ?_
              show xw J ov 98 98 (37, [(3, .int v114), (0, .ref 5), (1, .int a12), (2, .int a16)], [.int 5], hh115) _
              refine xi_istore (pc' := 39) (lv' := [(4, .int 5), (3, .int v114), (0, .ref 5), (1, .int a12), (2, .int a16)]) kc_98_37 rfl rfl (xm_lt ml_98 rfl) ?_
              refine xi_iload_n (pc' := 40) (x := a12) kc_98_39 rfl rfl ?_
              refine xi_istore (pc' := 42) (lv' := [(5, .int a12), (4, .int 5), (3, .int v114), (0, .ref 5), (1, .int a12), (2, .int a16)]) kc_98_40 rfl rfl (xm_lt ml_98 rfl) ?_
              refine xw_lv (b := [(0, .ref 5), (3, .int v114), (4, .int 5), (5, .int a12)]) (lvS_cons (lvS_cons (lvS_cons (lvS_cons (lvS_nil (show ([5, 4, 3, 0, 1, 2] : List Nat).Nodup by decide)) rfl) rfl) rfl) rfl) ?_
              have A121 := ((eh115.2.1 7 (by decide)).trans ((eh104.2.1 7 (by decide)).trans A5))
              refine xw_tell (o := 5) (t := 6) (c := 7) (hb := hh115) (f := 5) (was := v114) (by decide) (by decide) (by decide) A118 rfl rfl eh115.1 hy115 (fun z9120 hh120 hz120 HL120 eh120 => ?_) 602 a12 5 y5 hh115 (by omega) (by omega) (by omega) hy5 (xL_la0 (by omega)) (xL_pre H2 (by omega) (by omega) s115) (xh_rf A121)
              have ry120 : ∀ i, i < 601 → (-2147483648) ≤ (z9120.getD i 0).toInt ∧ (z9120.getD i 0).toInt ≤ 2147483647 := fun i _ => ⟨(xc_rng _).1, by have := (xc_rng (z9120.getD i 0)).2; omega⟩
              have K122 := xk_pa K116 (xk_wa rfl) xD_7 hz120 ry120 eh120
              show xw J ov 99 95 (104, [(5, .int 30), (4, .int (-20)), (0, .ref 0), (1, .int a12), (2, .int a14), (3, .int a16)], [.int v114], hh120) _
              refine xi_ireturn kc_95_104 mr_95 rfl ?_
              show xw J ov 100 195 (312, [(4, .int x4), (3, .ref 167), (2, .ref 115), (1, .ref 0), (0, .ref 1000000)], [.int v114], hh120) _
              refine xi_aload_n (pc' := 313) (x := 115) kc_195_312 rfl rfl ?_
              refine xi_aload_n (pc' := 314) (x := 1000000) kc_195_313 rfl rfl ?_
              refine xi_iload (pc' := 316) (x := x4) kc_195_314 rfl rfl ?_
              refine xi_iconst (pc' := 317) (v := 1) kc_195_316 rfl rfl ?_
              refine xi_iadd (pc' := 318) (v := v11) kc_195_317 rfl ev11 ?_
              refine xi_ialoadO (pc' := 319) (v := a12) kc_195_318 rfl (by decide) hov0 (xi_in (by omega) (by omega)) ea12 ?_
              refine xi_aload_n (pc' := 320) (x := 1000000) kc_195_319 rfl rfl ?_
              refine xi_iload (pc' := 322) (x := x4) kc_195_320 rfl rfl ?_
              refine xi_iconst (pc' := 323) (v := 2) kc_195_322 rfl rfl ?_
              refine xi_iadd (pc' := 324) (v := v13) kc_195_323 rfl ev13 ?_
              refine xi_ialoadO (pc' := 325) (v := a14) kc_195_324 rfl (by decide) hov0 (xi_in (by omega) (by omega)) ea14 ?_
              refine xi_aload_n (pc' := 326) (x := 1000000) kc_195_325 rfl rfl ?_
              refine xi_iload (pc' := 328) (x := x4) kc_195_326 rfl rfl ?_
              refine xi_iconst (pc' := 329) (v := 3) kc_195_328 rfl rfl ?_
              refine xi_iadd (pc' := 330) (v := v15) kc_195_329 rfl ev15 ?_
              refine xi_ialoadO (pc' := 331) (v := a16) kc_195_330 rfl (by decide) hov0 (xi_in (by omega) (by omega)) ea16 ?_
              obtain ⟨u123, u124, u125, u126, u127, u128, u129, u130, u131, u132, u133, u134, u135, bu123, bu124, bu125, bu126, bu127, bu128, bu129, bu130, bu131, bu132, bu133, bu134, bu135, A136⟩ := xq_115 K.1
              have A137 := ((eh120.2.1 115 (by decide)).trans ((eh115.2.1 115 (by decide)).trans ((eh104.2.1 115 (by decide)).trans A136)))
              refine xi_virtual (mj := 16) (as := [.int a12, .int a14, .int a16]) (st1 := [.int v114]) (lv0 := [(0, .ref 115), (1, .int a12), (2, .int a14), (3, .int a16)]) kc_195_331 rfl rfl rfl rfl rfl A137 (Nat.le_of_ble_eq_true rfl) (hJ _ _ _ _ (by decide)) (xm_le ml_16 rfl) rfl ?_
              refine xi_aload_n (pc' := 1) (x := 115) kc_16_0 rfl rfl ?_
              refine xi_iconst (pc' := 2) (v := 0) kc_16_1 rfl rfl ?_
              refine xi_putfield (pc' := 5) (fs' := [.int 0, .int u124, .ref 116, .ref 117, .ref 118, .ref 119, .ref 120, .ref 121, .ref 122, .ref 123, .ref 124, .ref 125, .ref 126, .ref 127, .ref 128, .ref 129, .int u125, .ref 130, .int u126, .ref 131, .ref 132, .ref 133, .ref 134, .int u127, .ref 135, .ref 136, .ref 137, .ref 138, .ref 139, .ref 140, .ref 141, .ref 142, .int u128, .int u129, .int u130, .ref 143, .ref 144, .ref 145, .ref 146, .ref 147, .ref 148, .int u131, .ref 149, .ref 150, .ref 151, .int u132, .ref 152, .ref 153, .ref 154, .ref 155, .ref 156, .ref 157, .ref 158, .ref 159, .int u133, .ref 160, .int u134, .ref 161, .ref 162, .ref 163, .ref 164, .int u135, .ref 165, .ref 166]) kc_16_2 rfl rfl rfl A137 rfl rfl rfl (Nat.le_of_ble_eq_true rfl) rfl (fun hh139 eh138 => ?_)
              have K140 := xk_pf (k := 0) (v := 0) K122 (xk_wf rfl) xD_115 A137 rfl (by first | omega | decide) (by first | omega | decide) eh138 rfl
              refine xi_iload_n (pc' := 6) (x := a14) kc_16_5 rfl rfl ?_
              refine xi_iconst (pc' := 7) (v := 0) kc_16_6 rfl rfl ?_
              refine xi_iconst (pc' := 8) (v := 1) kc_16_7 rfl rfl ?_
              refine xi_static (mj := 11) (as := [.int a14, .int 0, .int 1]) (st1 := []) (lv0 := [(0, .int a14), (1, .int 0), (2, .int 1)]) kc_16_8 rfl rfl (Nat.le_of_ble_eq_true rfl) rfl rfl (Nat.le_of_ble_eq_true rfl) (hJ _ _ _ _ (by decide)) (xm_le ml_11 rfl) rfl ?_
              refine xi_iload_n (pc' := 1) (x := a14) kc_11_0 rfl rfl ?_
              refine xi_iload_n (pc' := 2) (x := 0) kc_11_1 rfl rfl ?_
              refine xi_cmf (pc' := 5) kc_11_2 rfl (xc_lt_f (X := a14.toInt) (Y := 0) rfl (by decide) (by omega)) ?_
              refine xi_iload_n (pc' := 6) (x := a14) kc_11_5 rfl rfl ?_
              refine xi_iload_n (pc' := 7) (x := 1) kc_11_6 rfl rfl ?_
              refine xi_cmf (pc' := 10) kc_11_7 rfl (xc_gt_f (X := a14.toInt) (Y := 1) rfl (by decide) (by omega)) ?_
              refine xi_iconst (pc' := 11) (v := 1) kc_11_10 rfl rfl ?_
              refine xi_goto (pc' := 15) kc_11_11 rfl ?_
              refine xi_ireturn kc_11_15 mr_11 rfl ?_
              show xw J ov 99 16 (11, [(0, .ref 115), (1, .int a12), (2, .int a14), (3, .int a16)], [.int 1], hh139) _
              refine xi_ift (pc' := 21) kc_16_11 rfl rfl ?_
              refine xi_iload_n (pc' := 22) (x := a12) kc_16_21 rfl rfl ?_
              refine xi_iff (pc' := 25) kc_16_22 rfl (xc_lt_f (X := a12.toInt) (Y := 0) rfl (by decide) (by omega)) ?_
              refine xi_iload_n (pc' := 26) (x := a16) kc_16_25 rfl rfl ?_
              refine xi_iload_n (pc' := 27) (x := a14) kc_16_26 rfl rfl ?_
              refine xi_iff (pc' := 30) kc_16_27 rfl (xc_ne_f (X := a14.toInt) (Y := 0) rfl (by decide) (by omega)) ?_
              refine xi_bipush (pc' := 32) (v := (-20)) kc_16_30 rfl rfl ?_
              refine xi_goto (pc' := 36) kc_16_32 rfl ?_
              refine xi_cmt (pc' := 46) kc_16_36 rfl (xc_ge_t (X := a16.toInt) (Y := (-20)) rfl (by decide) (by omega)) ?_
              refine xi_iload_n (pc' := 47) (x := a12) kc_16_46 rfl rfl ?_
              refine xi_sipush (pc' := 50) (v := 599) kc_16_47 rfl rfl ?_
              refine xi_cmf (pc' := 53) kc_16_50 rfl (xc_gt_f (X := a12.toInt) (Y := 599) rfl (by decide) (by omega)) ?_
              refine xi_iload_n (pc' := 54) (x := a16) kc_16_53 rfl rfl ?_
              refine xi_iload_n (pc' := 55) (x := a14) kc_16_54 rfl rfl ?_
              refine xi_iff (pc' := 58) kc_16_55 rfl (xc_ne_f (X := a14.toInt) (Y := 0) rfl (by decide) (by omega)) ?_
              refine xi_bipush (pc' := 60) (v := 30) kc_16_58 rfl rfl ?_
              refine xi_goto (pc' := 65) kc_16_60 rfl ?_
              refine xi_cmt (pc' := 81) kc_16_65 rfl (xc_le_t (X := a16.toInt) (Y := 30) rfl (by decide) (by omega)) ?_
              refine xi_iload_n (pc' := 82) (x := a14) kc_16_81 rfl rfl ?_
              refine xi_iff (pc' := 85) kc_16_82 rfl (xc_ne_f (X := a14.toInt) (Y := 0) rfl (by decide) (by omega)) ?_
              refine xi_aload_n (pc' := 86) (x := 115) kc_16_85 rfl rfl ?_
              refine xi_getfield (pc' := 89) (v := .ref 123) kc_16_86 rfl rfl rfl eh138.1 rfl ?_
              refine xi_iload_n (pc' := 90) (x := a12) kc_16_89 rfl rfl ?_
              have A141 := ((eh138.2.1 123 (by decide)).trans ((eh120.2.1 123 (by decide)).trans ((eh115.2.1 123 (by decide)).trans ((eh104.2.1 123 (by decide)).trans A2))))
              refine xi_iaload (pc' := 91) (v := v114) kc_16_90 rfl A141 (by decide) rfl (xi_in (by omega) (by rw [hy2]; omega)) (xE_ld H0 (by first | omega | decide) (by first | omega | decide) (by omega) ev114) ?_
              refine xi_goto (pc' := 100) kc_16_91 rfl ?_
              refine xi_istore (pc' := 102) (lv' := [(4, .int v114), (0, .ref 115), (1, .int a12), (2, .int a14), (3, .int a16)]) kc_16_100 rfl rfl (xm_lt ml_16 rfl) ?_
              refine xi_aload_n (pc' := 103) (x := 115) kc_16_102 rfl rfl ?_
              refine xi_getfield (pc' := 106) (v := .ref 123) kc_16_103 rfl rfl rfl eh138.1 rfl ?_
              refine xi_iload_n (pc' := 107) (x := a12) kc_16_106 rfl rfl ?_
              refine xi_iload_n (pc' := 108) (x := a14) kc_16_107 rfl rfl ?_
              refine xi_iff (pc' := 111) kc_16_108 rfl (xc_ne_f (X := a14.toInt) (Y := 0) rfl (by decide) (by omega)) ?_
              refine xi_iload_n (pc' := 112) (x := a16) kc_16_111 rfl rfl ?_
              refine xi_goto (pc' := 121) kc_16_112 rfl ?_
              obtain ⟨y142, s142, hy142, ry142⟩ := xj_set (v := a16) hy2 ry2 a12 (by first | omega | decide) (by first | omega | decide)
              refine xi_iastore (pc' := 122) (x' := y142) kc_16_121 rfl A141 rfl (xi_in (by omega) (by rw [hy2]; omega)) s142 (fun hh142 eh142 => ?_)
              have K143 := xk_pa K140 (xk_wa rfl) xD_123 hy142 ry142 eh142
              refine xi_aload_n (pc' := 123) (x := 115) kc_16_122 rfl rfl ?_
              have A144 := ((eh142.2.1 115 (by decide)).trans eh138.1)
              refine xi_getfield (pc' := 126) (v := .ref 124) kc_16_123 rfl rfl rfl A144 rfl ?_
              refine xi_iload_n (pc' := 127) (x := a12) kc_16_126 rfl rfl ?_
              refine xi_iload_n (pc' := 128) (x := a14) kc_16_127 rfl rfl ?_
              refine xi_iconst (pc' := 129) (v := 1) kc_16_128 rfl rfl ?_
              refine xi_cmt (pc' := 136) kc_16_129 rfl (xc_ne_t (X := a14.toInt) (Y := 1) rfl (by decide) (by omega)) ?_
              refine xi_aload_n (pc' := 137) (x := 115) kc_16_136 rfl rfl ?_
              refine xi_getfield (pc' := 140) (v := .ref 124) kc_16_137 rfl rfl rfl A144 rfl ?_
              refine xi_iload_n (pc' := 141) (x := a12) kc_16_140 rfl rfl ?_
              obtain ⟨v145, ev145, bv145, dv145⟩ := xj_get hy4 ry4 (i := a12) (by omega) (by omega)
              have A146 := ((eh142.2.1 124 (by decide)).trans ((eh138.2.1 124 (by decide)).trans ((eh120.2.1 124 (by decide)).trans ((eh115.2.1 124 (by decide)).trans ((eh104.2.1 124 (by decide)).trans A4)))))
              refine xi_iaload (pc' := 142) (v := v145) kc_16_141 rfl A146 (by decide) rfl (xi_in (by omega) (by rw [hy4]; omega)) ev145 ?_
              obtain ⟨y147, s147, hy147, ry147⟩ := xj_set (v := v145) hy4 ry4 a12 (by first | omega | decide) (by first | omega | decide)
              refine xi_iastore (pc' := 143) (x' := y147) kc_16_142 rfl A146 rfl (xi_in (by omega) (by rw [hy4]; omega)) s147 (fun hh147 eh147 => ?_)
              have K148 := xk_pa K143 (xk_wa rfl) xD_124 hy147 ry147 eh147
              refine xi_aload_n (pc' := 144) (x := 115) kc_16_143 rfl rfl ?_
              refine xi_iconst (pc' := 145) (v := 0) kc_16_144 rfl rfl ?_
              have A149 := ((eh147.2.1 115 (by decide)).trans A144)
              refine xi_putfield (pc' := 148) (fs' := [.int 0, .int u124, .ref 116, .ref 117, .ref 118, .ref 119, .ref 120, .ref 121, .ref 122, .ref 123, .ref 124, .ref 125, .ref 126, .ref 127, .ref 128, .ref 129, .int u125, .ref 130, .int u126, .ref 131, .ref 132, .ref 133, .ref 134, .int u127, .ref 135, .ref 136, .ref 137, .ref 138, .ref 139, .ref 140, .ref 141, .ref 142, .int u128, .int u129, .int u130, .ref 143, .ref 144, .ref 145, .ref 146, .ref 147, .ref 148, .int 0, .ref 149, .ref 150, .ref 151, .int u132, .ref 152, .ref 153, .ref 154, .ref 155, .ref 156, .ref 157, .ref 158, .ref 159, .int u133, .ref 160, .int u134, .ref 161, .ref 162, .ref 163, .ref 164, .int u135, .ref 165, .ref 166]) kc_16_145 rfl rfl rfl A149 rfl rfl rfl (Nat.le_of_ble_eq_true rfl) rfl (fun hh151 eh150 => ?_)
              have K152 := xk_pf (k := 41) (v := 0) K148 (xk_wf rfl) xD_115 A149 rfl (by first | omega | decide) (by first | omega | decide) eh150 rfl
              refine xi_iload (pc' := 150) (x := v114) kc_16_148 rfl rfl ?_
              refine xi_ireturn kc_16_150 mr_16 rfl ?_
              show xw J ov 100 195 (334, [(4, .int x4), (3, .ref 167), (2, .ref 115), (1, .ref 0), (0, .ref 1000000)], [.int v114, .int v114], hh151) _
              refine xi_cmt (pc' := 1501) kc_195_334 rfl (xc_eq_t (X := v114.toInt) (Y := v114.toInt) rfl rfl (by omega)) ?_
              obtain ⟨v153, ev153⟩ : ∃ q : Int32, x4 + 6 = q := ⟨_, rfl⟩
              have zv153 : v153.toInt = (x4.toInt + 6) := by rw [← ev153]; exact (xz_add (X := x4.toInt) (Y := 6) rfl (by decide) (by omega) (by omega)).trans (by omega)
              refine xi_iinc (pc' := 1504) (x := x4) (v := v153) (lv' := [(4, .int v153), (3, .ref 167), (2, .ref 115), (1, .ref 0), (0, .ref 1000000)]) kc_195_1501 rfl rfl ev153 rfl (xm_lt ml_195 rfl) ?_
              refine xi_goto (pc' := 23) kc_195_1504 rfl ?_
              have A154 := ((eh150.2.1 6 (by decide)).trans ((eh147.2.1 6 (by decide)).trans ((eh142.2.1 6 (by decide)).trans ((eh138.2.1 6 (by decide)).trans ((eh120.2.1 6 (by decide)).trans eh115.1)))))
              have A155 := ((eh150.2.1 123 (by decide)).trans ((eh147.2.1 123 (by decide)).trans eh142.1))
              have A156 := ((eh150.2.1 9 (by decide)).trans ((eh147.2.1 9 (by decide)).trans ((eh142.2.1 9 (by decide)).trans ((eh138.2.1 9 (by decide)).trans ((eh120.2.1 9 (by decide)).trans ((eh115.2.1 9 (by decide)).trans ((eh104.2.1 9 (by decide)).trans A3)))))))
              have A157 := ((eh150.2.1 124 (by decide)).trans eh147.1)
              have A158 := ((eh150.2.1 7 (by decide)).trans ((eh147.2.1 7 (by decide)).trans ((eh142.2.1 7 (by decide)).trans ((eh138.2.1 7 (by decide)).trans eh120.1))))
              have A159 := ((eh150.2.1 10 (by decide)).trans ((eh147.2.1 10 (by decide)).trans ((eh142.2.1 10 (by decide)).trans ((eh138.2.1 10 (by decide)).trans ((eh120.2.1 10 (by decide)).trans ((eh115.2.1 10 (by decide)).trans ((eh104.2.1 10 (by decide)).trans A6)))))))
              have A160 := ((eh150.2.1 5 (by decide)).trans ((eh147.2.1 5 (by decide)).trans ((eh142.2.1 5 (by decide)).trans ((eh138.2.1 5 (by decide)).trans ((eh120.2.1 5 (by decide)).trans A118)))))
              have A161 := ((eh150.2.1 8 (by decide)).trans ((eh147.2.1 8 (by decide)).trans ((eh142.2.1 8 (by decide)).trans ((eh138.2.1 8 (by decide)).trans ((eh120.2.1 8 (by decide)).trans ((eh115.2.1 8 (by decide)).trans ((eh104.2.1 8 (by decide)).trans A10)))))))
              exact kk v153 hh151 (by omega) K152 ⟨(xE_mk A154 A155 (xE_set H0 (by first | omega | decide) (by omega) (by omega) (by omega) s115 s142)), (xE_mk A156 A157 (xE_id H1 ev145 s147)), (xL_mk A158 A154 HL120), (xL_mk A159 A156 H3), (xl_of A160 rfl), (xl_of A161 rfl)⟩
            · refine xi_iff (pc' := 4) kc_99_1 rfl (xc_lt_f (X := (a12.toInt + (-1))) (Y := 0) zv117 (by decide) (by omega)) ?_
              refine xi_iload_n (pc' := 5) (x := v117) kc_99_4 rfl rfl ?_
              refine xi_aload_n (pc' := 6) (x := 5) kc_99_5 rfl rfl ?_
              refine xi_getfield (pc' := 9) (v := .ref 7) kc_99_6 rfl rfl rfl A118 rfl ?_
              have A162 := ((eh115.2.1 7 (by decide)).trans ((eh104.2.1 7 (by decide)).trans A5))
              refine xi_arraylength (pc' := 10) (n := 601) (v := 601) kc_99_9 rfl (xl_lenI (by decide) (by decide) A162 hy5) rfl ?_
              refine xi_cmt (pc' := 20) kc_99_10 rfl (xc_lt_t (X := (a12.toInt + (-1))) (Y := 601) zv117 (by decide) (by omega)) ?_
              refine xi_aload_n (pc' := 21) (x := 5) kc_99_20 rfl rfl ?_
              refine xi_getfield (pc' := 24) (v := .ref 7) kc_99_21 rfl rfl rfl A118 rfl ?_
              refine xi_iload_n (pc' := 25) (x := v117) kc_99_24 rfl rfl ?_
              obtain ⟨v163, ev163, bv163, dv163⟩ := xj_get hy5 ry5 (i := v117) (by rw [zv117]; omega) (by rw [zv117]; omega)
              refine xi_iaload (pc' := 26) (v := v163) kc_99_25 rfl A162 (by decide) rfl (xi_in (by rw [zv117]; omega) (by rw [hy5]; rw [zv117]; omega)) ev163 ?_
              refine xi_ireturn kc_99_26 mr_99 rfl ?_
              show xw J ov 98 98 (37, [(3, .int v114), (0, .ref 5), (1, .int a12), (2, .int a16)], [.int v163], hh115) _
              refine xi_istore (pc' := 39) (lv' := [(4, .int v163), (3, .int v114), (0, .ref 5), (1, .int a12), (2, .int a16)]) kc_98_37 rfl rfl (xm_lt ml_98 rfl) ?_
              refine xi_iload_n (pc' := 40) (x := a12) kc_98_39 rfl rfl ?_
              refine xi_istore (pc' := 42) (lv' := [(5, .int a12), (4, .int v163), (3, .int v114), (0, .ref 5), (1, .int a12), (2, .int a16)]) kc_98_40 rfl rfl (xm_lt ml_98 rfl) ?_
              refine xw_lv (b := [(0, .ref 5), (3, .int v114), (4, .int v163), (5, .int a12)]) (lvS_cons (lvS_cons (lvS_cons (lvS_cons (lvS_nil (show ([5, 4, 3, 0, 1, 2] : List Nat).Nodup by decide)) rfl) rfl) rfl) rfl) ?_
              refine xw_tell (o := 5) (t := 6) (c := 7) (hb := hh115) (f := 5) (was := v114) (by decide) (by decide) (by decide) A118 rfl rfl eh115.1 hy115 (fun z9164 hh164 hz164 HL164 eh164 => ?_) 602 a12 v163 y5 hh115 (by omega) (by omega) (by omega) hy5 (xL_la (w := v117) H2 (by omega) (by omega) (by omega) (by omega) s115 ev163) (xL_pre H2 (by omega) (by omega) s115) (xh_rf A162)
              have ry164 : ∀ i, i < 601 → (-2147483648) ≤ (z9164.getD i 0).toInt ∧ (z9164.getD i 0).toInt ≤ 2147483647 := fun i _ => ⟨(xc_rng _).1, by have := (xc_rng (z9164.getD i 0)).2; omega⟩
              have K165 := xk_pa K116 (xk_wa rfl) xD_7 hz164 ry164 eh164
              show xw J ov 99 95 (104, [(5, .int 30), (4, .int (-20)), (0, .ref 0), (1, .int a12), (2, .int a14), (3, .int a16)], [.int v114], hh164) _
              refine xi_ireturn kc_95_104 mr_95 rfl ?_
              show xw J ov 100 195 (312, [(4, .int x4), (3, .ref 167), (2, .ref 115), (1, .ref 0), (0, .ref 1000000)], [.int v114], hh164) _
              refine xi_aload_n (pc' := 313) (x := 115) kc_195_312 rfl rfl ?_
              refine xi_aload_n (pc' := 314) (x := 1000000) kc_195_313 rfl rfl ?_
              refine xi_iload (pc' := 316) (x := x4) kc_195_314 rfl rfl ?_
              refine xi_iconst (pc' := 317) (v := 1) kc_195_316 rfl rfl ?_
              refine xi_iadd (pc' := 318) (v := v11) kc_195_317 rfl ev11 ?_
              refine xi_ialoadO (pc' := 319) (v := a12) kc_195_318 rfl (by decide) hov0 (xi_in (by omega) (by omega)) ea12 ?_
              refine xi_aload_n (pc' := 320) (x := 1000000) kc_195_319 rfl rfl ?_
              refine xi_iload (pc' := 322) (x := x4) kc_195_320 rfl rfl ?_
              refine xi_iconst (pc' := 323) (v := 2) kc_195_322 rfl rfl ?_
              refine xi_iadd (pc' := 324) (v := v13) kc_195_323 rfl ev13 ?_
              refine xi_ialoadO (pc' := 325) (v := a14) kc_195_324 rfl (by decide) hov0 (xi_in (by omega) (by omega)) ea14 ?_
              refine xi_aload_n (pc' := 326) (x := 1000000) kc_195_325 rfl rfl ?_
              refine xi_iload (pc' := 328) (x := x4) kc_195_326 rfl rfl ?_
              refine xi_iconst (pc' := 329) (v := 3) kc_195_328 rfl rfl ?_
              refine xi_iadd (pc' := 330) (v := v15) kc_195_329 rfl ev15 ?_
              refine xi_ialoadO (pc' := 331) (v := a16) kc_195_330 rfl (by decide) hov0 (xi_in (by omega) (by omega)) ea16 ?_
              obtain ⟨u166, u167, u168, u169, u170, u171, u172, u173, u174, u175, u176, u177, u178, bu166, bu167, bu168, bu169, bu170, bu171, bu172, bu173, bu174, bu175, bu176, bu177, bu178, A179⟩ := xq_115 K.1
              have A180 := ((eh164.2.1 115 (by decide)).trans ((eh115.2.1 115 (by decide)).trans ((eh104.2.1 115 (by decide)).trans A179)))
              refine xi_virtual (mj := 16) (as := [.int a12, .int a14, .int a16]) (st1 := [.int v114]) (lv0 := [(0, .ref 115), (1, .int a12), (2, .int a14), (3, .int a16)]) kc_195_331 rfl rfl rfl rfl rfl A180 (Nat.le_of_ble_eq_true rfl) (hJ _ _ _ _ (by decide)) (xm_le ml_16 rfl) rfl ?_
              refine xi_aload_n (pc' := 1) (x := 115) kc_16_0 rfl rfl ?_
              refine xi_iconst (pc' := 2) (v := 0) kc_16_1 rfl rfl ?_
              refine xi_putfield (pc' := 5) (fs' := [.int 0, .int u167, .ref 116, .ref 117, .ref 118, .ref 119, .ref 120, .ref 121, .ref 122, .ref 123, .ref 124, .ref 125, .ref 126, .ref 127, .ref 128, .ref 129, .int u168, .ref 130, .int u169, .ref 131, .ref 132, .ref 133, .ref 134, .int u170, .ref 135, .ref 136, .ref 137, .ref 138, .ref 139, .ref 140, .ref 141, .ref 142, .int u171, .int u172, .int u173, .ref 143, .ref 144, .ref 145, .ref 146, .ref 147, .ref 148, .int u174, .ref 149, .ref 150, .ref 151, .int u175, .ref 152, .ref 153, .ref 154, .ref 155, .ref 156, .ref 157, .ref 158, .ref 159, .int u176, .ref 160, .int u177, .ref 161, .ref 162, .ref 163, .ref 164, .int u178, .ref 165, .ref 166]) kc_16_2 rfl rfl rfl A180 rfl rfl rfl (Nat.le_of_ble_eq_true rfl) rfl (fun hh182 eh181 => ?_)
              have K183 := xk_pf (k := 0) (v := 0) K165 (xk_wf rfl) xD_115 A180 rfl (by first | omega | decide) (by first | omega | decide) eh181 rfl
              refine xi_iload_n (pc' := 6) (x := a14) kc_16_5 rfl rfl ?_
              refine xi_iconst (pc' := 7) (v := 0) kc_16_6 rfl rfl ?_
              refine xi_iconst (pc' := 8) (v := 1) kc_16_7 rfl rfl ?_
              refine xi_static (mj := 11) (as := [.int a14, .int 0, .int 1]) (st1 := []) (lv0 := [(0, .int a14), (1, .int 0), (2, .int 1)]) kc_16_8 rfl rfl (Nat.le_of_ble_eq_true rfl) rfl rfl (Nat.le_of_ble_eq_true rfl) (hJ _ _ _ _ (by decide)) (xm_le ml_11 rfl) rfl ?_
              refine xi_iload_n (pc' := 1) (x := a14) kc_11_0 rfl rfl ?_
              refine xi_iload_n (pc' := 2) (x := 0) kc_11_1 rfl rfl ?_
              refine xi_cmf (pc' := 5) kc_11_2 rfl (xc_lt_f (X := a14.toInt) (Y := 0) rfl (by decide) (by omega)) ?_
              refine xi_iload_n (pc' := 6) (x := a14) kc_11_5 rfl rfl ?_
              refine xi_iload_n (pc' := 7) (x := 1) kc_11_6 rfl rfl ?_
              refine xi_cmf (pc' := 10) kc_11_7 rfl (xc_gt_f (X := a14.toInt) (Y := 1) rfl (by decide) (by omega)) ?_
              refine xi_iconst (pc' := 11) (v := 1) kc_11_10 rfl rfl ?_
              refine xi_goto (pc' := 15) kc_11_11 rfl ?_
              refine xi_ireturn kc_11_15 mr_11 rfl ?_
              show xw J ov 99 16 (11, [(0, .ref 115), (1, .int a12), (2, .int a14), (3, .int a16)], [.int 1], hh182) _
              refine xi_ift (pc' := 21) kc_16_11 rfl rfl ?_
              refine xi_iload_n (pc' := 22) (x := a12) kc_16_21 rfl rfl ?_
              refine xi_iff (pc' := 25) kc_16_22 rfl (xc_lt_f (X := a12.toInt) (Y := 0) rfl (by decide) (by omega)) ?_
              refine xi_iload_n (pc' := 26) (x := a16) kc_16_25 rfl rfl ?_
              refine xi_iload_n (pc' := 27) (x := a14) kc_16_26 rfl rfl ?_
              refine xi_iff (pc' := 30) kc_16_27 rfl (xc_ne_f (X := a14.toInt) (Y := 0) rfl (by decide) (by omega)) ?_
              refine xi_bipush (pc' := 32) (v := (-20)) kc_16_30 rfl rfl ?_
              refine xi_goto (pc' := 36) kc_16_32 rfl ?_
              refine xi_cmt (pc' := 46) kc_16_36 rfl (xc_ge_t (X := a16.toInt) (Y := (-20)) rfl (by decide) (by omega)) ?_
              refine xi_iload_n (pc' := 47) (x := a12) kc_16_46 rfl rfl ?_
              refine xi_sipush (pc' := 50) (v := 599) kc_16_47 rfl rfl ?_
              refine xi_cmf (pc' := 53) kc_16_50 rfl (xc_gt_f (X := a12.toInt) (Y := 599) rfl (by decide) (by omega)) ?_
              refine xi_iload_n (pc' := 54) (x := a16) kc_16_53 rfl rfl ?_
              refine xi_iload_n (pc' := 55) (x := a14) kc_16_54 rfl rfl ?_
              refine xi_iff (pc' := 58) kc_16_55 rfl (xc_ne_f (X := a14.toInt) (Y := 0) rfl (by decide) (by omega)) ?_
              refine xi_bipush (pc' := 60) (v := 30) kc_16_58 rfl rfl ?_
              refine xi_goto (pc' := 65) kc_16_60 rfl ?_
              refine xi_cmt (pc' := 81) kc_16_65 rfl (xc_le_t (X := a16.toInt) (Y := 30) rfl (by decide) (by omega)) ?_
              refine xi_iload_n (pc' := 82) (x := a14) kc_16_81 rfl rfl ?_
              refine xi_iff (pc' := 85) kc_16_82 rfl (xc_ne_f (X := a14.toInt) (Y := 0) rfl (by decide) (by omega)) ?_
              refine xi_aload_n (pc' := 86) (x := 115) kc_16_85 rfl rfl ?_
              refine xi_getfield (pc' := 89) (v := .ref 123) kc_16_86 rfl rfl rfl eh181.1 rfl ?_
              refine xi_iload_n (pc' := 90) (x := a12) kc_16_89 rfl rfl ?_
              have A184 := ((eh181.2.1 123 (by decide)).trans ((eh164.2.1 123 (by decide)).trans ((eh115.2.1 123 (by decide)).trans ((eh104.2.1 123 (by decide)).trans A2))))
              refine xi_iaload (pc' := 91) (v := v114) kc_16_90 rfl A184 (by decide) rfl (xi_in (by omega) (by rw [hy2]; omega)) (xE_ld H0 (by first | omega | decide) (by first | omega | decide) (by omega) ev114) ?_
              refine xi_goto (pc' := 100) kc_16_91 rfl ?_
              refine xi_istore (pc' := 102) (lv' := [(4, .int v114), (0, .ref 115), (1, .int a12), (2, .int a14), (3, .int a16)]) kc_16_100 rfl rfl (xm_lt ml_16 rfl) ?_
              refine xi_aload_n (pc' := 103) (x := 115) kc_16_102 rfl rfl ?_
              refine xi_getfield (pc' := 106) (v := .ref 123) kc_16_103 rfl rfl rfl eh181.1 rfl ?_
              refine xi_iload_n (pc' := 107) (x := a12) kc_16_106 rfl rfl ?_
              refine xi_iload_n (pc' := 108) (x := a14) kc_16_107 rfl rfl ?_
              refine xi_iff (pc' := 111) kc_16_108 rfl (xc_ne_f (X := a14.toInt) (Y := 0) rfl (by decide) (by omega)) ?_
              refine xi_iload_n (pc' := 112) (x := a16) kc_16_111 rfl rfl ?_
              refine xi_goto (pc' := 121) kc_16_112 rfl ?_
              obtain ⟨y185, s185, hy185, ry185⟩ := xj_set (v := a16) hy2 ry2 a12 (by first | omega | decide) (by first | omega | decide)
              refine xi_iastore (pc' := 122) (x' := y185) kc_16_121 rfl A184 rfl (xi_in (by omega) (by rw [hy2]; omega)) s185 (fun hh185 eh185 => ?_)
              have K186 := xk_pa K183 (xk_wa rfl) xD_123 hy185 ry185 eh185
              refine xi_aload_n (pc' := 123) (x := 115) kc_16_122 rfl rfl ?_
              have A187 := ((eh185.2.1 115 (by decide)).trans eh181.1)
              refine xi_getfield (pc' := 126) (v := .ref 124) kc_16_123 rfl rfl rfl A187 rfl ?_
              refine xi_iload_n (pc' := 127) (x := a12) kc_16_126 rfl rfl ?_
              refine xi_iload_n (pc' := 128) (x := a14) kc_16_127 rfl rfl ?_
              refine xi_iconst (pc' := 129) (v := 1) kc_16_128 rfl rfl ?_
              refine xi_cmt (pc' := 136) kc_16_129 rfl (xc_ne_t (X := a14.toInt) (Y := 1) rfl (by decide) (by omega)) ?_
              refine xi_aload_n (pc' := 137) (x := 115) kc_16_136 rfl rfl ?_
              refine xi_getfield (pc' := 140) (v := .ref 124) kc_16_137 rfl rfl rfl A187 rfl ?_
              refine xi_iload_n (pc' := 141) (x := a12) kc_16_140 rfl rfl ?_
              obtain ⟨v188, ev188, bv188, dv188⟩ := xj_get hy4 ry4 (i := a12) (by omega) (by omega)
              have A189 := ((eh185.2.1 124 (by decide)).trans ((eh181.2.1 124 (by decide)).trans ((eh164.2.1 124 (by decide)).trans ((eh115.2.1 124 (by decide)).trans ((eh104.2.1 124 (by decide)).trans A4)))))
              refine xi_iaload (pc' := 142) (v := v188) kc_16_141 rfl A189 (by decide) rfl (xi_in (by omega) (by rw [hy4]; omega)) ev188 ?_
              obtain ⟨y190, s190, hy190, ry190⟩ := xj_set (v := v188) hy4 ry4 a12 (by first | omega | decide) (by first | omega | decide)
              refine xi_iastore (pc' := 143) (x' := y190) kc_16_142 rfl A189 rfl (xi_in (by omega) (by rw [hy4]; omega)) s190 (fun hh190 eh190 => ?_)
              have K191 := xk_pa K186 (xk_wa rfl) xD_124 hy190 ry190 eh190
              refine xi_aload_n (pc' := 144) (x := 115) kc_16_143 rfl rfl ?_
              refine xi_iconst (pc' := 145) (v := 0) kc_16_144 rfl rfl ?_
              have A192 := ((eh190.2.1 115 (by decide)).trans A187)
              refine xi_putfield (pc' := 148) (fs' := [.int 0, .int u167, .ref 116, .ref 117, .ref 118, .ref 119, .ref 120, .ref 121, .ref 122, .ref 123, .ref 124, .ref 125, .ref 126, .ref 127, .ref 128, .ref 129, .int u168, .ref 130, .int u169, .ref 131, .ref 132, .ref 133, .ref 134, .int u170, .ref 135, .ref 136, .ref 137, .ref 138, .ref 139, .ref 140, .ref 141, .ref 142, .int u171, .int u172, .int u173, .ref 143, .ref 144, .ref 145, .ref 146, .ref 147, .ref 148, .int 0, .ref 149, .ref 150, .ref 151, .int u175, .ref 152, .ref 153, .ref 154, .ref 155, .ref 156, .ref 157, .ref 158, .ref 159, .int u176, .ref 160, .int u177, .ref 161, .ref 162, .ref 163, .ref 164, .int u178, .ref 165, .ref 166]) kc_16_145 rfl rfl rfl A192 rfl rfl rfl (Nat.le_of_ble_eq_true rfl) rfl (fun hh194 eh193 => ?_)
              have K195 := xk_pf (k := 41) (v := 0) K191 (xk_wf rfl) xD_115 A192 rfl (by first | omega | decide) (by first | omega | decide) eh193 rfl
              refine xi_iload (pc' := 150) (x := v114) kc_16_148 rfl rfl ?_
              refine xi_ireturn kc_16_150 mr_16 rfl ?_
              show xw J ov 100 195 (334, [(4, .int x4), (3, .ref 167), (2, .ref 115), (1, .ref 0), (0, .ref 1000000)], [.int v114, .int v114], hh194) _
              refine xi_cmt (pc' := 1501) kc_195_334 rfl (xc_eq_t (X := v114.toInt) (Y := v114.toInt) rfl rfl (by omega)) ?_
              obtain ⟨v196, ev196⟩ : ∃ q : Int32, x4 + 6 = q := ⟨_, rfl⟩
              have zv196 : v196.toInt = (x4.toInt + 6) := by rw [← ev196]; exact (xz_add (X := x4.toInt) (Y := 6) rfl (by decide) (by omega) (by omega)).trans (by omega)
              refine xi_iinc (pc' := 1504) (x := x4) (v := v196) (lv' := [(4, .int v196), (3, .ref 167), (2, .ref 115), (1, .ref 0), (0, .ref 1000000)]) kc_195_1501 rfl rfl ev196 rfl (xm_lt ml_195 rfl) ?_
              refine xi_goto (pc' := 23) kc_195_1504 rfl ?_
              have A197 := ((eh193.2.1 6 (by decide)).trans ((eh190.2.1 6 (by decide)).trans ((eh185.2.1 6 (by decide)).trans ((eh181.2.1 6 (by decide)).trans ((eh164.2.1 6 (by decide)).trans eh115.1)))))
              have A198 := ((eh193.2.1 123 (by decide)).trans ((eh190.2.1 123 (by decide)).trans eh185.1))
              have A199 := ((eh193.2.1 9 (by decide)).trans ((eh190.2.1 9 (by decide)).trans ((eh185.2.1 9 (by decide)).trans ((eh181.2.1 9 (by decide)).trans ((eh164.2.1 9 (by decide)).trans ((eh115.2.1 9 (by decide)).trans ((eh104.2.1 9 (by decide)).trans A3)))))))
              have A200 := ((eh193.2.1 124 (by decide)).trans eh190.1)
              have A201 := ((eh193.2.1 7 (by decide)).trans ((eh190.2.1 7 (by decide)).trans ((eh185.2.1 7 (by decide)).trans ((eh181.2.1 7 (by decide)).trans eh164.1))))
              have A202 := ((eh193.2.1 10 (by decide)).trans ((eh190.2.1 10 (by decide)).trans ((eh185.2.1 10 (by decide)).trans ((eh181.2.1 10 (by decide)).trans ((eh164.2.1 10 (by decide)).trans ((eh115.2.1 10 (by decide)).trans ((eh104.2.1 10 (by decide)).trans A6)))))))
              have A203 := ((eh193.2.1 5 (by decide)).trans ((eh190.2.1 5 (by decide)).trans ((eh185.2.1 5 (by decide)).trans ((eh181.2.1 5 (by decide)).trans ((eh164.2.1 5 (by decide)).trans A118)))))
              have A204 := ((eh193.2.1 8 (by decide)).trans ((eh190.2.1 8 (by decide)).trans ((eh185.2.1 8 (by decide)).trans ((eh181.2.1 8 (by decide)).trans ((eh164.2.1 8 (by decide)).trans ((eh115.2.1 8 (by decide)).trans ((eh104.2.1 8 (by decide)).trans A10)))))))
              exact kk v196 hh194 (by omega) K195 ⟨(xE_mk A197 A198 (xE_set H0 (by first | omega | decide) (by omega) (by omega) (by omega) s115 s185)), (xE_mk A199 A200 (xE_id H1 ev188 s190)), (xL_mk A201 A197 HL164), (xL_mk A202 A199 H3), (xl_of A203 rfl), (xl_of A204 rfl)⟩
          · refine xi_cmf (pc' := 71) kc_95_68 rfl (xc_le_f (X := a16.toInt) (Y := 30) rfl (by decide) (by omega)) ?_
            refine xi_iload_n (pc' := 72) (x := a16) kc_95_71 rfl rfl ?_
            refine xi_bipush (pc' := 74) (v := 99) kc_95_72 rfl rfl ?_
            by_cases c205 : a16.toInt = 99
            · refine xi_cmt (pc' := 84) kc_95_74 rfl (xc_eq_t (X := a16.toInt) (Y := 99) rfl (by decide) (by omega)) ?_
              refine xi_aload_n (pc' := 85) (x := 0) kc_95_84 rfl rfl ?_
              refine xi_getfield (pc' := 88) (v := .ref 66) kc_95_85 rfl rfl rfl A19 rfl ?_
              obtain ⟨u207, wl206, bu207, A208⟩ := xq_66 K.1
              refine xi_virtual (mj := 91) (as := []) (st1 := []) (lv0 := [(0, .ref 66)]) kc_95_88 rfl rfl rfl rfl rfl A208 (Nat.le_of_ble_eq_true rfl) (hJ _ _ _ _ (by decide)) (xm_le ml_91 rfl) rfl ?_
              refine xi_aload_n (pc' := 1) (x := 66) kc_91_0 rfl rfl ?_
              refine xi_lconst (pc' := 2) (v := 0) kc_91_1 rfl rfl ?_
              refine xi_putfield (pc' := 5) (fs' := [.ref 1, .ref 67, .ref 70, .ref 71, .ref 72, .ref 73, .ref 74, .long 0, .int u207]) kc_91_2 rfl rfl rfl A208 rfl rfl rfl (Nat.le_of_ble_eq_true rfl) rfl (fun hh210 eh209 => ?_)
              have K211 := xk_pl (k := 7) (v := 0) K (xk_wf rfl) xD_66 A208 rfl eh209 rfl
              refine xi_return kc_91_5 mr_91 ?_
              show xw J ov 99 95 (91, [(5, .int 30), (4, .int (-20)), (0, .ref 0), (1, .int a12), (2, .int a14), (3, .int a16)], [], hh210) _
              refine xi_aload_n (pc' := 92) (x := 0) kc_95_91 rfl rfl ?_
              have A212 := ((eh209.2.1 0 (by decide)).trans A19)
              refine xi_getfield (pc' := 95) (v := .ref 1) kc_95_92 rfl rfl rfl A212 rfl ?_
              refine xi_iload_n (pc' := 96) (x := a14) kc_95_95 rfl rfl ?_
              obtain ⟨u213, u214, bu213, bu214, A215⟩ := xq_1 K.1
              have A216 := ((eh209.2.1 1 (by decide)).trans A215)
              refine xi_virtual (mj := 97) (as := [.int a14]) (st1 := []) (lv0 := [(0, .ref 1), (1, .int a14)]) kc_95_96 rfl rfl rfl rfl rfl A216 (Nat.le_of_ble_eq_true rfl) (hJ _ _ _ _ (by decide)) (xm_le ml_97 rfl) rfl ?_
              refine xi_iload_n (pc' := 1) (x := a14) kc_97_0 rfl rfl ?_
              refine xi_iff (pc' := 4) kc_97_1 rfl (xc_ne_f (X := a14.toInt) (Y := 0) rfl (by decide) (by omega)) ?_
              refine xi_aload_n (pc' := 5) (x := 1) kc_97_4 rfl rfl ?_
              refine xi_getfield (pc' := 8) (v := .ref 5) kc_97_5 rfl rfl rfl A216 rfl ?_
              refine xi_goto (pc' := 15) kc_97_8 rfl ?_
              refine xi_areturn kc_97_15 (by rw [mr_97]; rfl) ?_
              show xw J ov 99 95 (99, [(5, .int 30), (4, .int (-20)), (0, .ref 0), (1, .int a12), (2, .int a14), (3, .int a16)], [.ref 5], hh210) _
              refine xi_iload_n (pc' := 100) (x := a12) kc_95_99 rfl rfl ?_
              refine xi_iload_n (pc' := 101) (x := a16) kc_95_100 rfl rfl ?_
              have A217 := ((eh209.2.1 5 (by decide)).trans A8)
              refine xi_virtual (mj := 98) (as := [.int a12, .int a16]) (st1 := []) (lv0 := [(0, .ref 5), (1, .int a12), (2, .int a16)]) kc_95_101 rfl rfl rfl rfl rfl A217 (Nat.le_of_ble_eq_true rfl) (hJ _ _ _ _ (by decide)) (xm_le ml_98 rfl) rfl ?_
              refine xi_iload_n (pc' := 1) (x := a12) kc_98_0 rfl rfl ?_
              refine xi_iff (pc' := 4) kc_98_1 rfl (xc_lt_f (X := a12.toInt) (Y := 0) rfl (by decide) (by omega)) ?_
              refine xi_iload_n (pc' := 5) (x := a12) kc_98_4 rfl rfl ?_
              refine xi_aload_n (pc' := 6) (x := 5) kc_98_5 rfl rfl ?_
              refine xi_getfield (pc' := 9) (v := .ref 6) kc_98_6 rfl rfl rfl A217 rfl ?_
              have A218 := ((eh209.2.1 6 (by decide)).trans A1)
              refine xi_arraylength (pc' := 10) (n := 601) (v := 601) kc_98_9 rfl (xl_lenI (by decide) (by decide) A218 hy1) rfl ?_
              refine xi_cmt (pc' := 16) kc_98_10 rfl (xc_lt_t (X := a12.toInt) (Y := 601) rfl (by decide) (by omega)) ?_
              refine xi_aload_n (pc' := 17) (x := 5) kc_98_16 rfl rfl ?_
              refine xi_getfield (pc' := 20) (v := .ref 6) kc_98_17 rfl rfl rfl A217 rfl ?_
              refine xi_iload_n (pc' := 21) (x := a12) kc_98_20 rfl rfl ?_
              obtain ⟨v219, ev219, bv219, dv219⟩ := xj_get hy1 ry1 (i := a12) (by omega) (by omega)
              refine xi_iaload (pc' := 22) (v := v219) kc_98_21 rfl A218 (by decide) rfl (xi_in (by omega) (by rw [hy1]; omega)) ev219 ?_
              refine xi_istore_n (pc' := 23) (lv' := [(3, .int v219), (0, .ref 5), (1, .int a12), (2, .int a16)]) kc_98_22 rfl rfl (xm_lt ml_98 rfl) ?_
              refine xi_aload_n (pc' := 24) (x := 5) kc_98_23 rfl rfl ?_
              refine xi_getfield (pc' := 27) (v := .ref 6) kc_98_24 rfl rfl rfl A217 rfl ?_
              refine xi_iload_n (pc' := 28) (x := a12) kc_98_27 rfl rfl ?_
              refine xi_iload_n (pc' := 29) (x := a16) kc_98_28 rfl rfl ?_
              obtain ⟨y220, s220, hy220, ry220⟩ := xj_set (v := a16) hy1 ry1 a12 (by first | omega | decide) (by first | omega | decide)
              refine xi_iastore (pc' := 30) (x' := y220) kc_98_29 rfl A218 rfl (xi_in (by omega) (by rw [hy1]; omega)) s220 (fun hh220 eh220 => ?_)
              have K221 := xk_pa K211 (xk_wa rfl) xD_6 hy220 ry220 eh220
              refine xi_aload_n (pc' := 31) (x := 5) kc_98_30 rfl rfl ?_
              refine xi_iload_n (pc' := 32) (x := a12) kc_98_31 rfl rfl ?_
              refine xi_iconst (pc' := 33) (v := 1) kc_98_32 rfl rfl ?_
              obtain ⟨v222, ev222⟩ : ∃ q : Int32, a12 - 1 = q := ⟨_, rfl⟩
              have zv222 : v222.toInt = (a12.toInt + (-1)) := by rw [← ev222]; exact (xz_sub (X := a12.toInt) (Y := 1) rfl (by decide) (by omega) (by omega)).trans (by omega)
              refine xi_isub (pc' := 34) (v := v222) kc_98_33 rfl ev222 ?_
              have A223 := ((eh220.2.1 5 (by decide)).trans A217)
              refine xi_virtual (mj := 99) (as := [.int v222]) (st1 := []) (lv0 := [(0, .ref 5), (1, .int v222)]) kc_98_34 rfl rfl rfl rfl rfl A223 (Nat.le_of_ble_eq_true rfl) (hJ _ _ _ _ (by decide)) (xm_le ml_99 rfl) rfl ?_
              refine xi_iload_n (pc' := 1) (x := v222) kc_99_0 rfl rfl ?_
              by_cases c224 : (a12.toInt + (-1)) < 0
              · refine xi_ift (pc' := 13) kc_99_1 rfl (xc_lt_t (X := (a12.toInt + (-1))) (Y := 0) zv222 (by decide) (by omega)) ?_
                refine xi_aload_n (pc' := 14) (x := 5) kc_99_13 rfl rfl ?_
                refine xi_getfield (pc' := 17) (v := .int 5) kc_99_14 rfl rfl rfl A223 rfl ?_
                refine xi_goto (pc' := 26) kc_99_17 rfl ?_
                refine xi_ireturn kc_99_26 mr_99 rfl ?_
                show xw J ov 98 98 (37, [(3, .int v219), (0, .ref 5), (1, .int a12), (2, .int a16)], [.int 5], hh220) _
                refine xi_istore (pc' := 39) (lv' := [(4, .int 5), (3, .int v219), (0, .ref 5), (1, .int a12), (2, .int a16)]) kc_98_37 rfl rfl (xm_lt ml_98 rfl) ?_
                refine xi_iload_n (pc' := 40) (x := a12) kc_98_39 rfl rfl ?_
                refine xi_istore (pc' := 42) (lv' := [(5, .int a12), (4, .int 5), (3, .int v219), (0, .ref 5), (1, .int a12), (2, .int a16)]) kc_98_40 rfl rfl (xm_lt ml_98 rfl) ?_
                refine xw_lv (b := [(0, .ref 5), (3, .int v219), (4, .int 5), (5, .int a12)]) (lvS_cons (lvS_cons (lvS_cons (lvS_cons (lvS_nil (show ([5, 4, 3, 0, 1, 2] : List Nat).Nodup by decide)) rfl) rfl) rfl) rfl) ?_
                have A226 := ((eh220.2.1 7 (by decide)).trans ((eh209.2.1 7 (by decide)).trans A5))
                refine xw_tell (o := 5) (t := 6) (c := 7) (hb := hh220) (f := 5) (was := v219) (by decide) (by decide) (by decide) A223 rfl rfl eh220.1 hy220 (fun z9225 hh225 hz225 HL225 eh225 => ?_) 602 a12 5 y5 hh220 (by omega) (by omega) (by omega) hy5 (xL_la0 (by omega)) (xL_pre H2 (by omega) (by omega) s220) (xh_rf A226)
                have ry225 : ∀ i, i < 601 → (-2147483648) ≤ (z9225.getD i 0).toInt ∧ (z9225.getD i 0).toInt ≤ 2147483647 := fun i _ => ⟨(xc_rng _).1, by have := (xc_rng (z9225.getD i 0)).2; omega⟩
                have K227 := xk_pa K221 (xk_wa rfl) xD_7 hz225 ry225 eh225
                show xw J ov 99 95 (104, [(5, .int 30), (4, .int (-20)), (0, .ref 0), (1, .int a12), (2, .int a14), (3, .int a16)], [.int v219], hh225) _
                refine xi_ireturn kc_95_104 mr_95 rfl ?_
                show xw J ov 100 195 (312, [(4, .int x4), (3, .ref 167), (2, .ref 115), (1, .ref 0), (0, .ref 1000000)], [.int v219], hh225) _
                refine xi_aload_n (pc' := 313) (x := 115) kc_195_312 rfl rfl ?_
                refine xi_aload_n (pc' := 314) (x := 1000000) kc_195_313 rfl rfl ?_
                refine xi_iload (pc' := 316) (x := x4) kc_195_314 rfl rfl ?_
                refine xi_iconst (pc' := 317) (v := 1) kc_195_316 rfl rfl ?_
                refine xi_iadd (pc' := 318) (v := v11) kc_195_317 rfl ev11 ?_
                refine xi_ialoadO (pc' := 319) (v := a12) kc_195_318 rfl (by decide) hov0 (xi_in (by omega) (by omega)) ea12 ?_
                refine xi_aload_n (pc' := 320) (x := 1000000) kc_195_319 rfl rfl ?_
                refine xi_iload (pc' := 322) (x := x4) kc_195_320 rfl rfl ?_
                refine xi_iconst (pc' := 323) (v := 2) kc_195_322 rfl rfl ?_
                refine xi_iadd (pc' := 324) (v := v13) kc_195_323 rfl ev13 ?_
                refine xi_ialoadO (pc' := 325) (v := a14) kc_195_324 rfl (by decide) hov0 (xi_in (by omega) (by omega)) ea14 ?_
                refine xi_aload_n (pc' := 326) (x := 1000000) kc_195_325 rfl rfl ?_
                refine xi_iload (pc' := 328) (x := x4) kc_195_326 rfl rfl ?_
                refine xi_iconst (pc' := 329) (v := 3) kc_195_328 rfl rfl ?_
                refine xi_iadd (pc' := 330) (v := v15) kc_195_329 rfl ev15 ?_
                refine xi_ialoadO (pc' := 331) (v := a16) kc_195_330 rfl (by decide) hov0 (xi_in (by omega) (by omega)) ea16 ?_
                obtain ⟨u228, u229, u230, u231, u232, u233, u234, u235, u236, u237, u238, u239, u240, bu228, bu229, bu230, bu231, bu232, bu233, bu234, bu235, bu236, bu237, bu238, bu239, bu240, A241⟩ := xq_115 K.1
                have A242 := ((eh225.2.1 115 (by decide)).trans ((eh220.2.1 115 (by decide)).trans ((eh209.2.1 115 (by decide)).trans A241)))
                refine xi_virtual (mj := 16) (as := [.int a12, .int a14, .int a16]) (st1 := [.int v219]) (lv0 := [(0, .ref 115), (1, .int a12), (2, .int a14), (3, .int a16)]) kc_195_331 rfl rfl rfl rfl rfl A242 (Nat.le_of_ble_eq_true rfl) (hJ _ _ _ _ (by decide)) (xm_le ml_16 rfl) rfl ?_
                refine xi_aload_n (pc' := 1) (x := 115) kc_16_0 rfl rfl ?_
                refine xi_iconst (pc' := 2) (v := 0) kc_16_1 rfl rfl ?_
                refine xi_putfield (pc' := 5) (fs' := [.int 0, .int u229, .ref 116, .ref 117, .ref 118, .ref 119, .ref 120, .ref 121, .ref 122, .ref 123, .ref 124, .ref 125, .ref 126, .ref 127, .ref 128, .ref 129, .int u230, .ref 130, .int u231, .ref 131, .ref 132, .ref 133, .ref 134, .int u232, .ref 135, .ref 136, .ref 137, .ref 138, .ref 139, .ref 140, .ref 141, .ref 142, .int u233, .int u234, .int u235, .ref 143, .ref 144, .ref 145, .ref 146, .ref 147, .ref 148, .int u236, .ref 149, .ref 150, .ref 151, .int u237, .ref 152, .ref 153, .ref 154, .ref 155, .ref 156, .ref 157, .ref 158, .ref 159, .int u238, .ref 160, .int u239, .ref 161, .ref 162, .ref 163, .ref 164, .int u240, .ref 165, .ref 166]) kc_16_2 rfl rfl rfl A242 rfl rfl rfl (Nat.le_of_ble_eq_true rfl) rfl (fun hh244 eh243 => ?_)
                have K245 := xk_pf (k := 0) (v := 0) K227 (xk_wf rfl) xD_115 A242 rfl (by first | omega | decide) (by first | omega | decide) eh243 rfl
                refine xi_iload_n (pc' := 6) (x := a14) kc_16_5 rfl rfl ?_
                refine xi_iconst (pc' := 7) (v := 0) kc_16_6 rfl rfl ?_
                refine xi_iconst (pc' := 8) (v := 1) kc_16_7 rfl rfl ?_
                refine xi_static (mj := 11) (as := [.int a14, .int 0, .int 1]) (st1 := []) (lv0 := [(0, .int a14), (1, .int 0), (2, .int 1)]) kc_16_8 rfl rfl (Nat.le_of_ble_eq_true rfl) rfl rfl (Nat.le_of_ble_eq_true rfl) (hJ _ _ _ _ (by decide)) (xm_le ml_11 rfl) rfl ?_
                refine xi_iload_n (pc' := 1) (x := a14) kc_11_0 rfl rfl ?_
                refine xi_iload_n (pc' := 2) (x := 0) kc_11_1 rfl rfl ?_
                refine xi_cmf (pc' := 5) kc_11_2 rfl (xc_lt_f (X := a14.toInt) (Y := 0) rfl (by decide) (by omega)) ?_
                refine xi_iload_n (pc' := 6) (x := a14) kc_11_5 rfl rfl ?_
                refine xi_iload_n (pc' := 7) (x := 1) kc_11_6 rfl rfl ?_
                refine xi_cmf (pc' := 10) kc_11_7 rfl (xc_gt_f (X := a14.toInt) (Y := 1) rfl (by decide) (by omega)) ?_
                refine xi_iconst (pc' := 11) (v := 1) kc_11_10 rfl rfl ?_
                refine xi_goto (pc' := 15) kc_11_11 rfl ?_
                refine xi_ireturn kc_11_15 mr_11 rfl ?_
                show xw J ov 99 16 (11, [(0, .ref 115), (1, .int a12), (2, .int a14), (3, .int a16)], [.int 1], hh244) _
                refine xi_ift (pc' := 21) kc_16_11 rfl rfl ?_
                refine xi_iload_n (pc' := 22) (x := a12) kc_16_21 rfl rfl ?_
                refine xi_iff (pc' := 25) kc_16_22 rfl (xc_lt_f (X := a12.toInt) (Y := 0) rfl (by decide) (by omega)) ?_
                refine xi_iload_n (pc' := 26) (x := a16) kc_16_25 rfl rfl ?_
                refine xi_iload_n (pc' := 27) (x := a14) kc_16_26 rfl rfl ?_
                refine xi_iff (pc' := 30) kc_16_27 rfl (xc_ne_f (X := a14.toInt) (Y := 0) rfl (by decide) (by omega)) ?_
                refine xi_bipush (pc' := 32) (v := (-20)) kc_16_30 rfl rfl ?_
                refine xi_goto (pc' := 36) kc_16_32 rfl ?_
                refine xi_cmt (pc' := 46) kc_16_36 rfl (xc_ge_t (X := a16.toInt) (Y := (-20)) rfl (by decide) (by omega)) ?_
                refine xi_iload_n (pc' := 47) (x := a12) kc_16_46 rfl rfl ?_
                refine xi_sipush (pc' := 50) (v := 599) kc_16_47 rfl rfl ?_
                refine xi_cmf (pc' := 53) kc_16_50 rfl (xc_gt_f (X := a12.toInt) (Y := 599) rfl (by decide) (by omega)) ?_
                refine xi_iload_n (pc' := 54) (x := a16) kc_16_53 rfl rfl ?_
                refine xi_iload_n (pc' := 55) (x := a14) kc_16_54 rfl rfl ?_
                refine xi_iff (pc' := 58) kc_16_55 rfl (xc_ne_f (X := a14.toInt) (Y := 0) rfl (by decide) (by omega)) ?_
                refine xi_bipush (pc' := 60) (v := 30) kc_16_58 rfl rfl ?_
                refine xi_goto (pc' := 65) kc_16_60 rfl ?_
                refine xi_cmf (pc' := 68) kc_16_65 rfl (xc_le_f (X := a16.toInt) (Y := 30) rfl (by decide) (by omega)) ?_
                refine xi_iload_n (pc' := 69) (x := a16) kc_16_68 rfl rfl ?_
                refine xi_bipush (pc' := 71) (v := 99) kc_16_69 rfl rfl ?_
                refine xi_cmt (pc' := 81) kc_16_71 rfl (xc_eq_t (X := a16.toInt) (Y := 99) rfl (by decide) (by omega)) ?_
                refine xi_iload_n (pc' := 82) (x := a14) kc_16_81 rfl rfl ?_
                refine xi_iff (pc' := 85) kc_16_82 rfl (xc_ne_f (X := a14.toInt) (Y := 0) rfl (by decide) (by omega)) ?_
                refine xi_aload_n (pc' := 86) (x := 115) kc_16_85 rfl rfl ?_
                refine xi_getfield (pc' := 89) (v := .ref 123) kc_16_86 rfl rfl rfl eh243.1 rfl ?_
                refine xi_iload_n (pc' := 90) (x := a12) kc_16_89 rfl rfl ?_
                have A246 := ((eh243.2.1 123 (by decide)).trans ((eh225.2.1 123 (by decide)).trans ((eh220.2.1 123 (by decide)).trans ((eh209.2.1 123 (by decide)).trans A2))))
                refine xi_iaload (pc' := 91) (v := v219) kc_16_90 rfl A246 (by decide) rfl (xi_in (by omega) (by rw [hy2]; omega)) (xE_ld H0 (by first | omega | decide) (by first | omega | decide) (by omega) ev219) ?_
                refine xi_goto (pc' := 100) kc_16_91 rfl ?_
                refine xi_istore (pc' := 102) (lv' := [(4, .int v219), (0, .ref 115), (1, .int a12), (2, .int a14), (3, .int a16)]) kc_16_100 rfl rfl (xm_lt ml_16 rfl) ?_
                refine xi_aload_n (pc' := 103) (x := 115) kc_16_102 rfl rfl ?_
                refine xi_getfield (pc' := 106) (v := .ref 123) kc_16_103 rfl rfl rfl eh243.1 rfl ?_
                refine xi_iload_n (pc' := 107) (x := a12) kc_16_106 rfl rfl ?_
                refine xi_iload_n (pc' := 108) (x := a14) kc_16_107 rfl rfl ?_
                refine xi_iff (pc' := 111) kc_16_108 rfl (xc_ne_f (X := a14.toInt) (Y := 0) rfl (by decide) (by omega)) ?_
                refine xi_iload_n (pc' := 112) (x := a16) kc_16_111 rfl rfl ?_
                refine xi_goto (pc' := 121) kc_16_112 rfl ?_
                obtain ⟨y247, s247, hy247, ry247⟩ := xj_set (v := a16) hy2 ry2 a12 (by first | omega | decide) (by first | omega | decide)
                refine xi_iastore (pc' := 122) (x' := y247) kc_16_121 rfl A246 rfl (xi_in (by omega) (by rw [hy2]; omega)) s247 (fun hh247 eh247 => ?_)
                have K248 := xk_pa K245 (xk_wa rfl) xD_123 hy247 ry247 eh247
                refine xi_aload_n (pc' := 123) (x := 115) kc_16_122 rfl rfl ?_
                have A249 := ((eh247.2.1 115 (by decide)).trans eh243.1)
                refine xi_getfield (pc' := 126) (v := .ref 124) kc_16_123 rfl rfl rfl A249 rfl ?_
                refine xi_iload_n (pc' := 127) (x := a12) kc_16_126 rfl rfl ?_
                refine xi_iload_n (pc' := 128) (x := a14) kc_16_127 rfl rfl ?_
                refine xi_iconst (pc' := 129) (v := 1) kc_16_128 rfl rfl ?_
                refine xi_cmt (pc' := 136) kc_16_129 rfl (xc_ne_t (X := a14.toInt) (Y := 1) rfl (by decide) (by omega)) ?_
                refine xi_aload_n (pc' := 137) (x := 115) kc_16_136 rfl rfl ?_
                refine xi_getfield (pc' := 140) (v := .ref 124) kc_16_137 rfl rfl rfl A249 rfl ?_
                refine xi_iload_n (pc' := 141) (x := a12) kc_16_140 rfl rfl ?_
                obtain ⟨v250, ev250, bv250, dv250⟩ := xj_get hy4 ry4 (i := a12) (by omega) (by omega)
                have A251 := ((eh247.2.1 124 (by decide)).trans ((eh243.2.1 124 (by decide)).trans ((eh225.2.1 124 (by decide)).trans ((eh220.2.1 124 (by decide)).trans ((eh209.2.1 124 (by decide)).trans A4)))))
                refine xi_iaload (pc' := 142) (v := v250) kc_16_141 rfl A251 (by decide) rfl (xi_in (by omega) (by rw [hy4]; omega)) ev250 ?_
                obtain ⟨y252, s252, hy252, ry252⟩ := xj_set (v := v250) hy4 ry4 a12 (by first | omega | decide) (by first | omega | decide)
                refine xi_iastore (pc' := 143) (x' := y252) kc_16_142 rfl A251 rfl (xi_in (by omega) (by rw [hy4]; omega)) s252 (fun hh252 eh252 => ?_)
                have K253 := xk_pa K248 (xk_wa rfl) xD_124 hy252 ry252 eh252
                refine xi_aload_n (pc' := 144) (x := 115) kc_16_143 rfl rfl ?_
                refine xi_iconst (pc' := 145) (v := 0) kc_16_144 rfl rfl ?_
                have A254 := ((eh252.2.1 115 (by decide)).trans A249)
                refine xi_putfield (pc' := 148) (fs' := [.int 0, .int u229, .ref 116, .ref 117, .ref 118, .ref 119, .ref 120, .ref 121, .ref 122, .ref 123, .ref 124, .ref 125, .ref 126, .ref 127, .ref 128, .ref 129, .int u230, .ref 130, .int u231, .ref 131, .ref 132, .ref 133, .ref 134, .int u232, .ref 135, .ref 136, .ref 137, .ref 138, .ref 139, .ref 140, .ref 141, .ref 142, .int u233, .int u234, .int u235, .ref 143, .ref 144, .ref 145, .ref 146, .ref 147, .ref 148, .int 0, .ref 149, .ref 150, .ref 151, .int u237, .ref 152, .ref 153, .ref 154, .ref 155, .ref 156, .ref 157, .ref 158, .ref 159, .int u238, .ref 160, .int u239, .ref 161, .ref 162, .ref 163, .ref 164, .int u240, .ref 165, .ref 166]) kc_16_145 rfl rfl rfl A254 rfl rfl rfl (Nat.le_of_ble_eq_true rfl) rfl (fun hh256 eh255 => ?_)
                have K257 := xk_pf (k := 41) (v := 0) K253 (xk_wf rfl) xD_115 A254 rfl (by first | omega | decide) (by first | omega | decide) eh255 rfl
                refine xi_iload (pc' := 150) (x := v219) kc_16_148 rfl rfl ?_
                refine xi_ireturn kc_16_150 mr_16 rfl ?_
                show xw J ov 100 195 (334, [(4, .int x4), (3, .ref 167), (2, .ref 115), (1, .ref 0), (0, .ref 1000000)], [.int v219, .int v219], hh256) _
                refine xi_cmt (pc' := 1501) kc_195_334 rfl (xc_eq_t (X := v219.toInt) (Y := v219.toInt) rfl rfl (by omega)) ?_
                obtain ⟨v258, ev258⟩ : ∃ q : Int32, x4 + 6 = q := ⟨_, rfl⟩
                have zv258 : v258.toInt = (x4.toInt + 6) := by rw [← ev258]; exact (xz_add (X := x4.toInt) (Y := 6) rfl (by decide) (by omega) (by omega)).trans (by omega)
                refine xi_iinc (pc' := 1504) (x := x4) (v := v258) (lv' := [(4, .int v258), (3, .ref 167), (2, .ref 115), (1, .ref 0), (0, .ref 1000000)]) kc_195_1501 rfl rfl ev258 rfl (xm_lt ml_195 rfl) ?_
                refine xi_goto (pc' := 23) kc_195_1504 rfl ?_
                have A259 := ((eh255.2.1 6 (by decide)).trans ((eh252.2.1 6 (by decide)).trans ((eh247.2.1 6 (by decide)).trans ((eh243.2.1 6 (by decide)).trans ((eh225.2.1 6 (by decide)).trans eh220.1)))))
                have A260 := ((eh255.2.1 123 (by decide)).trans ((eh252.2.1 123 (by decide)).trans eh247.1))
                have A261 := ((eh255.2.1 9 (by decide)).trans ((eh252.2.1 9 (by decide)).trans ((eh247.2.1 9 (by decide)).trans ((eh243.2.1 9 (by decide)).trans ((eh225.2.1 9 (by decide)).trans ((eh220.2.1 9 (by decide)).trans ((eh209.2.1 9 (by decide)).trans A3)))))))
                have A262 := ((eh255.2.1 124 (by decide)).trans eh252.1)
                have A263 := ((eh255.2.1 7 (by decide)).trans ((eh252.2.1 7 (by decide)).trans ((eh247.2.1 7 (by decide)).trans ((eh243.2.1 7 (by decide)).trans eh225.1))))
                have A264 := ((eh255.2.1 10 (by decide)).trans ((eh252.2.1 10 (by decide)).trans ((eh247.2.1 10 (by decide)).trans ((eh243.2.1 10 (by decide)).trans ((eh225.2.1 10 (by decide)).trans ((eh220.2.1 10 (by decide)).trans ((eh209.2.1 10 (by decide)).trans A6)))))))
                have A265 := ((eh255.2.1 5 (by decide)).trans ((eh252.2.1 5 (by decide)).trans ((eh247.2.1 5 (by decide)).trans ((eh243.2.1 5 (by decide)).trans ((eh225.2.1 5 (by decide)).trans A223)))))
                have A266 := ((eh255.2.1 8 (by decide)).trans ((eh252.2.1 8 (by decide)).trans ((eh247.2.1 8 (by decide)).trans ((eh243.2.1 8 (by decide)).trans ((eh225.2.1 8 (by decide)).trans ((eh220.2.1 8 (by decide)).trans ((eh209.2.1 8 (by decide)).trans A10)))))))
                exact kk v258 hh256 (by omega) K257 ⟨(xE_mk A259 A260 (xE_set H0 (by first | omega | decide) (by omega) (by omega) (by omega) s220 s247)), (xE_mk A261 A262 (xE_id H1 ev250 s252)), (xL_mk A263 A259 HL225), (xL_mk A264 A261 H3), (xl_of A265 rfl), (xl_of A266 rfl)⟩
              · refine xi_iff (pc' := 4) kc_99_1 rfl (xc_lt_f (X := (a12.toInt + (-1))) (Y := 0) zv222 (by decide) (by omega)) ?_
                refine xi_iload_n (pc' := 5) (x := v222) kc_99_4 rfl rfl ?_
                refine xi_aload_n (pc' := 6) (x := 5) kc_99_5 rfl rfl ?_
                refine xi_getfield (pc' := 9) (v := .ref 7) kc_99_6 rfl rfl rfl A223 rfl ?_
                have A267 := ((eh220.2.1 7 (by decide)).trans ((eh209.2.1 7 (by decide)).trans A5))
                refine xi_arraylength (pc' := 10) (n := 601) (v := 601) kc_99_9 rfl (xl_lenI (by decide) (by decide) A267 hy5) rfl ?_
                refine xi_cmt (pc' := 20) kc_99_10 rfl (xc_lt_t (X := (a12.toInt + (-1))) (Y := 601) zv222 (by decide) (by omega)) ?_
                refine xi_aload_n (pc' := 21) (x := 5) kc_99_20 rfl rfl ?_
                refine xi_getfield (pc' := 24) (v := .ref 7) kc_99_21 rfl rfl rfl A223 rfl ?_
                refine xi_iload_n (pc' := 25) (x := v222) kc_99_24 rfl rfl ?_
                obtain ⟨v268, ev268, bv268, dv268⟩ := xj_get hy5 ry5 (i := v222) (by rw [zv222]; omega) (by rw [zv222]; omega)
                refine xi_iaload (pc' := 26) (v := v268) kc_99_25 rfl A267 (by decide) rfl (xi_in (by rw [zv222]; omega) (by rw [hy5]; rw [zv222]; omega)) ev268 ?_
                refine xi_ireturn kc_99_26 mr_99 rfl ?_
                show xw J ov 98 98 (37, [(3, .int v219), (0, .ref 5), (1, .int a12), (2, .int a16)], [.int v268], hh220) _
                refine xi_istore (pc' := 39) (lv' := [(4, .int v268), (3, .int v219), (0, .ref 5), (1, .int a12), (2, .int a16)]) kc_98_37 rfl rfl (xm_lt ml_98 rfl) ?_
                refine xi_iload_n (pc' := 40) (x := a12) kc_98_39 rfl rfl ?_
                refine xi_istore (pc' := 42) (lv' := [(5, .int a12), (4, .int v268), (3, .int v219), (0, .ref 5), (1, .int a12), (2, .int a16)]) kc_98_40 rfl rfl (xm_lt ml_98 rfl) ?_
                refine xw_lv (b := [(0, .ref 5), (3, .int v219), (4, .int v268), (5, .int a12)]) (lvS_cons (lvS_cons (lvS_cons (lvS_cons (lvS_nil (show ([5, 4, 3, 0, 1, 2] : List Nat).Nodup by decide)) rfl) rfl) rfl) rfl) ?_
                refine xw_tell (o := 5) (t := 6) (c := 7) (hb := hh220) (f := 5) (was := v219) (by decide) (by decide) (by decide) A223 rfl rfl eh220.1 hy220 (fun z9269 hh269 hz269 HL269 eh269 => ?_) 602 a12 v268 y5 hh220 (by omega) (by omega) (by omega) hy5 (xL_la (w := v222) H2 (by omega) (by omega) (by omega) (by omega) s220 ev268) (xL_pre H2 (by omega) (by omega) s220) (xh_rf A267)
                have ry269 : ∀ i, i < 601 → (-2147483648) ≤ (z9269.getD i 0).toInt ∧ (z9269.getD i 0).toInt ≤ 2147483647 := fun i _ => ⟨(xc_rng _).1, by have := (xc_rng (z9269.getD i 0)).2; omega⟩
                have K270 := xk_pa K221 (xk_wa rfl) xD_7 hz269 ry269 eh269
                show xw J ov 99 95 (104, [(5, .int 30), (4, .int (-20)), (0, .ref 0), (1, .int a12), (2, .int a14), (3, .int a16)], [.int v219], hh269) _
                refine xi_ireturn kc_95_104 mr_95 rfl ?_
                show xw J ov 100 195 (312, [(4, .int x4), (3, .ref 167), (2, .ref 115), (1, .ref 0), (0, .ref 1000000)], [.int v219], hh269) _
                refine xi_aload_n (pc' := 313) (x := 115) kc_195_312 rfl rfl ?_
                refine xi_aload_n (pc' := 314) (x := 1000000) kc_195_313 rfl rfl ?_
                refine xi_iload (pc' := 316) (x := x4) kc_195_314 rfl rfl ?_
                refine xi_iconst (pc' := 317) (v := 1) kc_195_316 rfl rfl ?_
                refine xi_iadd (pc' := 318) (v := v11) kc_195_317 rfl ev11 ?_
                refine xi_ialoadO (pc' := 319) (v := a12) kc_195_318 rfl (by decide) hov0 (xi_in (by omega) (by omega)) ea12 ?_
                refine xi_aload_n (pc' := 320) (x := 1000000) kc_195_319 rfl rfl ?_
                refine xi_iload (pc' := 322) (x := x4) kc_195_320 rfl rfl ?_
                refine xi_iconst (pc' := 323) (v := 2) kc_195_322 rfl rfl ?_
                refine xi_iadd (pc' := 324) (v := v13) kc_195_323 rfl ev13 ?_
                refine xi_ialoadO (pc' := 325) (v := a14) kc_195_324 rfl (by decide) hov0 (xi_in (by omega) (by omega)) ea14 ?_
                refine xi_aload_n (pc' := 326) (x := 1000000) kc_195_325 rfl rfl ?_
                refine xi_iload (pc' := 328) (x := x4) kc_195_326 rfl rfl ?_
                refine xi_iconst (pc' := 329) (v := 3) kc_195_328 rfl rfl ?_
                refine xi_iadd (pc' := 330) (v := v15) kc_195_329 rfl ev15 ?_
                refine xi_ialoadO (pc' := 331) (v := a16) kc_195_330 rfl (by decide) hov0 (xi_in (by omega) (by omega)) ea16 ?_
                obtain ⟨u271, u272, u273, u274, u275, u276, u277, u278, u279, u280, u281, u282, u283, bu271, bu272, bu273, bu274, bu275, bu276, bu277, bu278, bu279, bu280, bu281, bu282, bu283, A284⟩ := xq_115 K.1
                have A285 := ((eh269.2.1 115 (by decide)).trans ((eh220.2.1 115 (by decide)).trans ((eh209.2.1 115 (by decide)).trans A284)))
                refine xi_virtual (mj := 16) (as := [.int a12, .int a14, .int a16]) (st1 := [.int v219]) (lv0 := [(0, .ref 115), (1, .int a12), (2, .int a14), (3, .int a16)]) kc_195_331 rfl rfl rfl rfl rfl A285 (Nat.le_of_ble_eq_true rfl) (hJ _ _ _ _ (by decide)) (xm_le ml_16 rfl) rfl ?_
                refine xi_aload_n (pc' := 1) (x := 115) kc_16_0 rfl rfl ?_
                refine xi_iconst (pc' := 2) (v := 0) kc_16_1 rfl rfl ?_
                refine xi_putfield (pc' := 5) (fs' := [.int 0, .int u272, .ref 116, .ref 117, .ref 118, .ref 119, .ref 120, .ref 121, .ref 122, .ref 123, .ref 124, .ref 125, .ref 126, .ref 127, .ref 128, .ref 129, .int u273, .ref 130, .int u274, .ref 131, .ref 132, .ref 133, .ref 134, .int u275, .ref 135, .ref 136, .ref 137, .ref 138, .ref 139, .ref 140, .ref 141, .ref 142, .int u276, .int u277, .int u278, .ref 143, .ref 144, .ref 145, .ref 146, .ref 147, .ref 148, .int u279, .ref 149, .ref 150, .ref 151, .int u280, .ref 152, .ref 153, .ref 154, .ref 155, .ref 156, .ref 157, .ref 158, .ref 159, .int u281, .ref 160, .int u282, .ref 161, .ref 162, .ref 163, .ref 164, .int u283, .ref 165, .ref 166]) kc_16_2 rfl rfl rfl A285 rfl rfl rfl (Nat.le_of_ble_eq_true rfl) rfl (fun hh287 eh286 => ?_)
                have K288 := xk_pf (k := 0) (v := 0) K270 (xk_wf rfl) xD_115 A285 rfl (by first | omega | decide) (by first | omega | decide) eh286 rfl
                refine xi_iload_n (pc' := 6) (x := a14) kc_16_5 rfl rfl ?_
                refine xi_iconst (pc' := 7) (v := 0) kc_16_6 rfl rfl ?_
                refine xi_iconst (pc' := 8) (v := 1) kc_16_7 rfl rfl ?_
                refine xi_static (mj := 11) (as := [.int a14, .int 0, .int 1]) (st1 := []) (lv0 := [(0, .int a14), (1, .int 0), (2, .int 1)]) kc_16_8 rfl rfl (Nat.le_of_ble_eq_true rfl) rfl rfl (Nat.le_of_ble_eq_true rfl) (hJ _ _ _ _ (by decide)) (xm_le ml_11 rfl) rfl ?_
                refine xi_iload_n (pc' := 1) (x := a14) kc_11_0 rfl rfl ?_
                refine xi_iload_n (pc' := 2) (x := 0) kc_11_1 rfl rfl ?_
                refine xi_cmf (pc' := 5) kc_11_2 rfl (xc_lt_f (X := a14.toInt) (Y := 0) rfl (by decide) (by omega)) ?_
                refine xi_iload_n (pc' := 6) (x := a14) kc_11_5 rfl rfl ?_
                refine xi_iload_n (pc' := 7) (x := 1) kc_11_6 rfl rfl ?_
                refine xi_cmf (pc' := 10) kc_11_7 rfl (xc_gt_f (X := a14.toInt) (Y := 1) rfl (by decide) (by omega)) ?_
                refine xi_iconst (pc' := 11) (v := 1) kc_11_10 rfl rfl ?_
                refine xi_goto (pc' := 15) kc_11_11 rfl ?_
                refine xi_ireturn kc_11_15 mr_11 rfl ?_
                show xw J ov 99 16 (11, [(0, .ref 115), (1, .int a12), (2, .int a14), (3, .int a16)], [.int 1], hh287) _
                refine xi_ift (pc' := 21) kc_16_11 rfl rfl ?_
                refine xi_iload_n (pc' := 22) (x := a12) kc_16_21 rfl rfl ?_
                refine xi_iff (pc' := 25) kc_16_22 rfl (xc_lt_f (X := a12.toInt) (Y := 0) rfl (by decide) (by omega)) ?_
                refine xi_iload_n (pc' := 26) (x := a16) kc_16_25 rfl rfl ?_
                refine xi_iload_n (pc' := 27) (x := a14) kc_16_26 rfl rfl ?_
                refine xi_iff (pc' := 30) kc_16_27 rfl (xc_ne_f (X := a14.toInt) (Y := 0) rfl (by decide) (by omega)) ?_
                refine xi_bipush (pc' := 32) (v := (-20)) kc_16_30 rfl rfl ?_
                refine xi_goto (pc' := 36) kc_16_32 rfl ?_
                refine xi_cmt (pc' := 46) kc_16_36 rfl (xc_ge_t (X := a16.toInt) (Y := (-20)) rfl (by decide) (by omega)) ?_
                refine xi_iload_n (pc' := 47) (x := a12) kc_16_46 rfl rfl ?_
                refine xi_sipush (pc' := 50) (v := 599) kc_16_47 rfl rfl ?_
                refine xi_cmf (pc' := 53) kc_16_50 rfl (xc_gt_f (X := a12.toInt) (Y := 599) rfl (by decide) (by omega)) ?_
                refine xi_iload_n (pc' := 54) (x := a16) kc_16_53 rfl rfl ?_
                refine xi_iload_n (pc' := 55) (x := a14) kc_16_54 rfl rfl ?_
                refine xi_iff (pc' := 58) kc_16_55 rfl (xc_ne_f (X := a14.toInt) (Y := 0) rfl (by decide) (by omega)) ?_
                refine xi_bipush (pc' := 60) (v := 30) kc_16_58 rfl rfl ?_
                refine xi_goto (pc' := 65) kc_16_60 rfl ?_
                refine xi_cmf (pc' := 68) kc_16_65 rfl (xc_le_f (X := a16.toInt) (Y := 30) rfl (by decide) (by omega)) ?_
                refine xi_iload_n (pc' := 69) (x := a16) kc_16_68 rfl rfl ?_
                refine xi_bipush (pc' := 71) (v := 99) kc_16_69 rfl rfl ?_
                refine xi_cmt (pc' := 81) kc_16_71 rfl (xc_eq_t (X := a16.toInt) (Y := 99) rfl (by decide) (by omega)) ?_
                refine xi_iload_n (pc' := 82) (x := a14) kc_16_81 rfl rfl ?_
                refine xi_iff (pc' := 85) kc_16_82 rfl (xc_ne_f (X := a14.toInt) (Y := 0) rfl (by decide) (by omega)) ?_
                refine xi_aload_n (pc' := 86) (x := 115) kc_16_85 rfl rfl ?_
                refine xi_getfield (pc' := 89) (v := .ref 123) kc_16_86 rfl rfl rfl eh286.1 rfl ?_
                refine xi_iload_n (pc' := 90) (x := a12) kc_16_89 rfl rfl ?_
                have A289 := ((eh286.2.1 123 (by decide)).trans ((eh269.2.1 123 (by decide)).trans ((eh220.2.1 123 (by decide)).trans ((eh209.2.1 123 (by decide)).trans A2))))
                refine xi_iaload (pc' := 91) (v := v219) kc_16_90 rfl A289 (by decide) rfl (xi_in (by omega) (by rw [hy2]; omega)) (xE_ld H0 (by first | omega | decide) (by first | omega | decide) (by omega) ev219) ?_
                refine xi_goto (pc' := 100) kc_16_91 rfl ?_
                refine xi_istore (pc' := 102) (lv' := [(4, .int v219), (0, .ref 115), (1, .int a12), (2, .int a14), (3, .int a16)]) kc_16_100 rfl rfl (xm_lt ml_16 rfl) ?_
                refine xi_aload_n (pc' := 103) (x := 115) kc_16_102 rfl rfl ?_
                refine xi_getfield (pc' := 106) (v := .ref 123) kc_16_103 rfl rfl rfl eh286.1 rfl ?_
                refine xi_iload_n (pc' := 107) (x := a12) kc_16_106 rfl rfl ?_
                refine xi_iload_n (pc' := 108) (x := a14) kc_16_107 rfl rfl ?_
                refine xi_iff (pc' := 111) kc_16_108 rfl (xc_ne_f (X := a14.toInt) (Y := 0) rfl (by decide) (by omega)) ?_
                refine xi_iload_n (pc' := 112) (x := a16) kc_16_111 rfl rfl ?_
                refine xi_goto (pc' := 121) kc_16_112 rfl ?_
                obtain ⟨y290, s290, hy290, ry290⟩ := xj_set (v := a16) hy2 ry2 a12 (by first | omega | decide) (by first | omega | decide)
                refine xi_iastore (pc' := 122) (x' := y290) kc_16_121 rfl A289 rfl (xi_in (by omega) (by rw [hy2]; omega)) s290 (fun hh290 eh290 => ?_)
                have K291 := xk_pa K288 (xk_wa rfl) xD_123 hy290 ry290 eh290
                refine xi_aload_n (pc' := 123) (x := 115) kc_16_122 rfl rfl ?_
                have A292 := ((eh290.2.1 115 (by decide)).trans eh286.1)
                refine xi_getfield (pc' := 126) (v := .ref 124) kc_16_123 rfl rfl rfl A292 rfl ?_
                refine xi_iload_n (pc' := 127) (x := a12) kc_16_126 rfl rfl ?_
                refine xi_iload_n (pc' := 128) (x := a14) kc_16_127 rfl rfl ?_
                refine xi_iconst (pc' := 129) (v := 1) kc_16_128 rfl rfl ?_
                refine xi_cmt (pc' := 136) kc_16_129 rfl (xc_ne_t (X := a14.toInt) (Y := 1) rfl (by decide) (by omega)) ?_
                refine xi_aload_n (pc' := 137) (x := 115) kc_16_136 rfl rfl ?_
                refine xi_getfield (pc' := 140) (v := .ref 124) kc_16_137 rfl rfl rfl A292 rfl ?_
                refine xi_iload_n (pc' := 141) (x := a12) kc_16_140 rfl rfl ?_
                obtain ⟨v293, ev293, bv293, dv293⟩ := xj_get hy4 ry4 (i := a12) (by omega) (by omega)
                have A294 := ((eh290.2.1 124 (by decide)).trans ((eh286.2.1 124 (by decide)).trans ((eh269.2.1 124 (by decide)).trans ((eh220.2.1 124 (by decide)).trans ((eh209.2.1 124 (by decide)).trans A4)))))
                refine xi_iaload (pc' := 142) (v := v293) kc_16_141 rfl A294 (by decide) rfl (xi_in (by omega) (by rw [hy4]; omega)) ev293 ?_
                obtain ⟨y295, s295, hy295, ry295⟩ := xj_set (v := v293) hy4 ry4 a12 (by first | omega | decide) (by first | omega | decide)
                refine xi_iastore (pc' := 143) (x' := y295) kc_16_142 rfl A294 rfl (xi_in (by omega) (by rw [hy4]; omega)) s295 (fun hh295 eh295 => ?_)
                have K296 := xk_pa K291 (xk_wa rfl) xD_124 hy295 ry295 eh295
                refine xi_aload_n (pc' := 144) (x := 115) kc_16_143 rfl rfl ?_
                refine xi_iconst (pc' := 145) (v := 0) kc_16_144 rfl rfl ?_
                have A297 := ((eh295.2.1 115 (by decide)).trans A292)
                refine xi_putfield (pc' := 148) (fs' := [.int 0, .int u272, .ref 116, .ref 117, .ref 118, .ref 119, .ref 120, .ref 121, .ref 122, .ref 123, .ref 124, .ref 125, .ref 126, .ref 127, .ref 128, .ref 129, .int u273, .ref 130, .int u274, .ref 131, .ref 132, .ref 133, .ref 134, .int u275, .ref 135, .ref 136, .ref 137, .ref 138, .ref 139, .ref 140, .ref 141, .ref 142, .int u276, .int u277, .int u278, .ref 143, .ref 144, .ref 145, .ref 146, .ref 147, .ref 148, .int 0, .ref 149, .ref 150, .ref 151, .int u280, .ref 152, .ref 153, .ref 154, .ref 155, .ref 156, .ref 157, .ref 158, .ref 159, .int u281, .ref 160, .int u282, .ref 161, .ref 162, .ref 163, .ref 164, .int u283, .ref 165, .ref 166]) kc_16_145 rfl rfl rfl A297 rfl rfl rfl (Nat.le_of_ble_eq_true rfl) rfl (fun hh299 eh298 => ?_)
                have K300 := xk_pf (k := 41) (v := 0) K296 (xk_wf rfl) xD_115 A297 rfl (by first | omega | decide) (by first | omega | decide) eh298 rfl
                refine xi_iload (pc' := 150) (x := v219) kc_16_148 rfl rfl ?_
                refine xi_ireturn kc_16_150 mr_16 rfl ?_
                show xw J ov 100 195 (334, [(4, .int x4), (3, .ref 167), (2, .ref 115), (1, .ref 0), (0, .ref 1000000)], [.int v219, .int v219], hh299) _
                refine xi_cmt (pc' := 1501) kc_195_334 rfl (xc_eq_t (X := v219.toInt) (Y := v219.toInt) rfl rfl (by omega)) ?_
                obtain ⟨v301, ev301⟩ : ∃ q : Int32, x4 + 6 = q := ⟨_, rfl⟩
                have zv301 : v301.toInt = (x4.toInt + 6) := by rw [← ev301]; exact (xz_add (X := x4.toInt) (Y := 6) rfl (by decide) (by omega) (by omega)).trans (by omega)
                refine xi_iinc (pc' := 1504) (x := x4) (v := v301) (lv' := [(4, .int v301), (3, .ref 167), (2, .ref 115), (1, .ref 0), (0, .ref 1000000)]) kc_195_1501 rfl rfl ev301 rfl (xm_lt ml_195 rfl) ?_
                refine xi_goto (pc' := 23) kc_195_1504 rfl ?_
                have A302 := ((eh298.2.1 6 (by decide)).trans ((eh295.2.1 6 (by decide)).trans ((eh290.2.1 6 (by decide)).trans ((eh286.2.1 6 (by decide)).trans ((eh269.2.1 6 (by decide)).trans eh220.1)))))
                have A303 := ((eh298.2.1 123 (by decide)).trans ((eh295.2.1 123 (by decide)).trans eh290.1))
                have A304 := ((eh298.2.1 9 (by decide)).trans ((eh295.2.1 9 (by decide)).trans ((eh290.2.1 9 (by decide)).trans ((eh286.2.1 9 (by decide)).trans ((eh269.2.1 9 (by decide)).trans ((eh220.2.1 9 (by decide)).trans ((eh209.2.1 9 (by decide)).trans A3)))))))
                have A305 := ((eh298.2.1 124 (by decide)).trans eh295.1)
                have A306 := ((eh298.2.1 7 (by decide)).trans ((eh295.2.1 7 (by decide)).trans ((eh290.2.1 7 (by decide)).trans ((eh286.2.1 7 (by decide)).trans eh269.1))))
                have A307 := ((eh298.2.1 10 (by decide)).trans ((eh295.2.1 10 (by decide)).trans ((eh290.2.1 10 (by decide)).trans ((eh286.2.1 10 (by decide)).trans ((eh269.2.1 10 (by decide)).trans ((eh220.2.1 10 (by decide)).trans ((eh209.2.1 10 (by decide)).trans A6)))))))
                have A308 := ((eh298.2.1 5 (by decide)).trans ((eh295.2.1 5 (by decide)).trans ((eh290.2.1 5 (by decide)).trans ((eh286.2.1 5 (by decide)).trans ((eh269.2.1 5 (by decide)).trans A223)))))
                have A309 := ((eh298.2.1 8 (by decide)).trans ((eh295.2.1 8 (by decide)).trans ((eh290.2.1 8 (by decide)).trans ((eh286.2.1 8 (by decide)).trans ((eh269.2.1 8 (by decide)).trans ((eh220.2.1 8 (by decide)).trans ((eh209.2.1 8 (by decide)).trans A10)))))))
                exact kk v301 hh299 (by omega) K300 ⟨(xE_mk A302 A303 (xE_set H0 (by first | omega | decide) (by omega) (by omega) (by omega) s220 s290)), (xE_mk A304 A305 (xE_id H1 ev293 s295)), (xL_mk A306 A302 HL269), (xL_mk A307 A304 H3), (xl_of A308 rfl), (xl_of A309 rfl)⟩
            · refine xi_cmf (pc' := 77) kc_95_74 rfl (xc_eq_f (X := a16.toInt) (Y := 99) rfl (by decide) (by omega)) ?_
              refine xi_aload_n (pc' := 78) (x := 0) kc_95_77 rfl rfl ?_
              refine xi_bipush (pc' := 80) (v := (-6)) kc_95_78 rfl rfl ?_
              refine xi_virtual (mj := 96) (as := [.int (-6)]) (st1 := []) (lv0 := [(0, .ref 0), (1, .int (-6))]) kc_95_80 rfl rfl rfl rfl rfl A19 (Nat.le_of_ble_eq_true rfl) (hJ _ _ _ _ (by decide)) (xm_le ml_96 rfl) rfl ?_
              refine xi_ldc_w (pc' := 3) (v := 1000000000) kc_96_0 rfl rfl ?_
              refine xi_aload_n (pc' := 4) (x := 0) kc_96_3 rfl rfl ?_
              refine xi_iload_n (pc' := 5) (x := (-6)) kc_96_4 rfl rfl ?_
              refine xi_virtual (mj := 90) (as := [.int (-6)]) (st1 := [.int 1000000000]) (lv0 := [(0, .ref 0), (1, .int (-6))]) kc_96_5 rfl rfl rfl rfl rfl A19 (Nat.le_of_ble_eq_true rfl) (hJ _ _ _ _ (by decide)) (xm_le ml_90 rfl) rfl ?_
              refine xi_iload_n (pc' := 1) (x := (-6)) kc_90_0 rfl rfl ?_
              refine xi_ineg (pc' := 2) (v := 6) kc_90_1 rfl rfl ?_
              refine xi_istore_n (pc' := 3) (lv' := [(2, .int 6), (0, .ref 0), (1, .int (-6))]) kc_90_2 rfl rfl (xm_lt ml_90 rfl) ?_
              refine xi_iload_n (pc' := 4) (x := 6) kc_90_3 rfl rfl ?_
              refine xi_iff (pc' := 7) kc_90_4 rfl rfl ?_
              refine xi_iload_n (pc' := 8) (x := 6) kc_90_7 rfl rfl ?_
              refine xi_aload_n (pc' := 9) (x := 0) kc_90_8 rfl rfl ?_
              refine xi_getfield (pc' := 12) (v := .ref 94) kc_90_9 rfl rfl rfl A19 rfl ?_
              obtain ⟨y310, A310, hy310, ry310⟩ := xk_arr K.1 xD_94
              refine xi_arraylength (pc' := 13) (n := 7) (v := 7) kc_90_12 rfl (xl_lenI (by decide) (by decide) A310 hy310) rfl ?_
              refine xi_cmf (pc' := 16) kc_90_13 rfl rfl ?_
              refine xi_aload_n (pc' := 17) (x := 0) kc_90_16 rfl rfl ?_
              refine xi_getfield (pc' := 20) (v := .ref 94) kc_90_17 rfl rfl rfl A19 rfl ?_
              refine xi_iload_n (pc' := 21) (x := 6) kc_90_20 rfl rfl ?_
              refine xi_dup2 (pc' := 22) kc_90_21 rfl ⟨rfl, rfl⟩ ?_
              obtain ⟨v311, ev311, bv311, dv311⟩ := xj_get hy310 ry310 (i := 6) (by decide) (by decide)
              refine xi_iaload (pc' := 23) (v := v311) kc_90_22 rfl A310 (by decide) rfl (xi_in (by decide) (by rw [hy310]; decide)) ev311 ?_
              refine xi_iconst (pc' := 24) (v := 1) kc_90_23 rfl rfl ?_
              obtain ⟨v312, ev312⟩ : ∃ q : Int32, (v311 : Int32) + 1 = q := ⟨_, rfl⟩
              have rv312 := xc_rng v312
              refine xi_iadd (pc' := 25) (v := v312) kc_90_24 rfl ev312 ?_
              obtain ⟨y313, s313, hy313, ry313⟩ := xj_set (v := v312) hy310 ry310 6 (by first | omega | decide) (by first | omega | decide)
              refine xi_iastore (pc' := 26) (x' := y313) kc_90_25 rfl A310 rfl (xi_in (by decide) (by rw [hy310]; decide)) s313 (fun hh313 eh313 => ?_)
              have K314 := xk_pa K (xk_wa rfl) xD_94 hy313 ry313 eh313
              refine xi_iload_n (pc' := 27) (x := (-6)) kc_90_26 rfl rfl ?_
              refine xi_ireturn kc_90_27 mr_90 rfl ?_
              show xw J ov 98 96 (8, [(0, .ref 0), (1, .int (-6))], [.int (-6), .int 1000000000], hh313) _
              refine xi_isub (pc' := 9) (v := 1000000006) kc_96_8 rfl rfl ?_
              refine xi_ireturn kc_96_9 mr_96 rfl ?_
              show xw J ov 99 95 (83, [(5, .int 30), (4, .int (-20)), (0, .ref 0), (1, .int a12), (2, .int a14), (3, .int a16)], [.int 1000000006], hh313) _
              refine xi_ireturn kc_95_83 mr_95 rfl ?_
              show xw J ov 100 195 (312, [(4, .int x4), (3, .ref 167), (2, .ref 115), (1, .ref 0), (0, .ref 1000000)], [.int 1000000006], hh313) _
              refine xi_aload_n (pc' := 313) (x := 115) kc_195_312 rfl rfl ?_
              refine xi_aload_n (pc' := 314) (x := 1000000) kc_195_313 rfl rfl ?_
              refine xi_iload (pc' := 316) (x := x4) kc_195_314 rfl rfl ?_
              refine xi_iconst (pc' := 317) (v := 1) kc_195_316 rfl rfl ?_
              refine xi_iadd (pc' := 318) (v := v11) kc_195_317 rfl ev11 ?_
              refine xi_ialoadO (pc' := 319) (v := a12) kc_195_318 rfl (by decide) hov0 (xi_in (by omega) (by omega)) ea12 ?_
              refine xi_aload_n (pc' := 320) (x := 1000000) kc_195_319 rfl rfl ?_
              refine xi_iload (pc' := 322) (x := x4) kc_195_320 rfl rfl ?_
              refine xi_iconst (pc' := 323) (v := 2) kc_195_322 rfl rfl ?_
              refine xi_iadd (pc' := 324) (v := v13) kc_195_323 rfl ev13 ?_
              refine xi_ialoadO (pc' := 325) (v := a14) kc_195_324 rfl (by decide) hov0 (xi_in (by omega) (by omega)) ea14 ?_
              refine xi_aload_n (pc' := 326) (x := 1000000) kc_195_325 rfl rfl ?_
              refine xi_iload (pc' := 328) (x := x4) kc_195_326 rfl rfl ?_
              refine xi_iconst (pc' := 329) (v := 3) kc_195_328 rfl rfl ?_
              refine xi_iadd (pc' := 330) (v := v15) kc_195_329 rfl ev15 ?_
              refine xi_ialoadO (pc' := 331) (v := a16) kc_195_330 rfl (by decide) hov0 (xi_in (by omega) (by omega)) ea16 ?_
              obtain ⟨u315, u316, u317, u318, u319, u320, u321, u322, u323, u324, u325, u326, u327, bu315, bu316, bu317, bu318, bu319, bu320, bu321, bu322, bu323, bu324, bu325, bu326, bu327, A328⟩ := xq_115 K.1
              have A329 := ((eh313.2.1 115 (by decide)).trans A328)
              refine xi_virtual (mj := 16) (as := [.int a12, .int a14, .int a16]) (st1 := [.int 1000000006]) (lv0 := [(0, .ref 115), (1, .int a12), (2, .int a14), (3, .int a16)]) kc_195_331 rfl rfl rfl rfl rfl A329 (Nat.le_of_ble_eq_true rfl) (hJ _ _ _ _ (by decide)) (xm_le ml_16 rfl) rfl ?_
              refine xi_aload_n (pc' := 1) (x := 115) kc_16_0 rfl rfl ?_
              refine xi_iconst (pc' := 2) (v := 0) kc_16_1 rfl rfl ?_
              refine xi_putfield (pc' := 5) (fs' := [.int 0, .int u316, .ref 116, .ref 117, .ref 118, .ref 119, .ref 120, .ref 121, .ref 122, .ref 123, .ref 124, .ref 125, .ref 126, .ref 127, .ref 128, .ref 129, .int u317, .ref 130, .int u318, .ref 131, .ref 132, .ref 133, .ref 134, .int u319, .ref 135, .ref 136, .ref 137, .ref 138, .ref 139, .ref 140, .ref 141, .ref 142, .int u320, .int u321, .int u322, .ref 143, .ref 144, .ref 145, .ref 146, .ref 147, .ref 148, .int u323, .ref 149, .ref 150, .ref 151, .int u324, .ref 152, .ref 153, .ref 154, .ref 155, .ref 156, .ref 157, .ref 158, .ref 159, .int u325, .ref 160, .int u326, .ref 161, .ref 162, .ref 163, .ref 164, .int u327, .ref 165, .ref 166]) kc_16_2 rfl rfl rfl A329 rfl rfl rfl (Nat.le_of_ble_eq_true rfl) rfl (fun hh331 eh330 => ?_)
              have K332 := xk_pf (k := 0) (v := 0) K314 (xk_wf rfl) xD_115 A329 rfl (by first | omega | decide) (by first | omega | decide) eh330 rfl
              refine xi_iload_n (pc' := 6) (x := a14) kc_16_5 rfl rfl ?_
              refine xi_iconst (pc' := 7) (v := 0) kc_16_6 rfl rfl ?_
              refine xi_iconst (pc' := 8) (v := 1) kc_16_7 rfl rfl ?_
              refine xi_static (mj := 11) (as := [.int a14, .int 0, .int 1]) (st1 := []) (lv0 := [(0, .int a14), (1, .int 0), (2, .int 1)]) kc_16_8 rfl rfl (Nat.le_of_ble_eq_true rfl) rfl rfl (Nat.le_of_ble_eq_true rfl) (hJ _ _ _ _ (by decide)) (xm_le ml_11 rfl) rfl ?_
              refine xi_iload_n (pc' := 1) (x := a14) kc_11_0 rfl rfl ?_
              refine xi_iload_n (pc' := 2) (x := 0) kc_11_1 rfl rfl ?_
              refine xi_cmf (pc' := 5) kc_11_2 rfl (xc_lt_f (X := a14.toInt) (Y := 0) rfl (by decide) (by omega)) ?_
              refine xi_iload_n (pc' := 6) (x := a14) kc_11_5 rfl rfl ?_
              refine xi_iload_n (pc' := 7) (x := 1) kc_11_6 rfl rfl ?_
              refine xi_cmf (pc' := 10) kc_11_7 rfl (xc_gt_f (X := a14.toInt) (Y := 1) rfl (by decide) (by omega)) ?_
              refine xi_iconst (pc' := 11) (v := 1) kc_11_10 rfl rfl ?_
              refine xi_goto (pc' := 15) kc_11_11 rfl ?_
              refine xi_ireturn kc_11_15 mr_11 rfl ?_
              show xw J ov 99 16 (11, [(0, .ref 115), (1, .int a12), (2, .int a14), (3, .int a16)], [.int 1], hh331) _
              refine xi_ift (pc' := 21) kc_16_11 rfl rfl ?_
              refine xi_iload_n (pc' := 22) (x := a12) kc_16_21 rfl rfl ?_
              refine xi_iff (pc' := 25) kc_16_22 rfl (xc_lt_f (X := a12.toInt) (Y := 0) rfl (by decide) (by omega)) ?_
              refine xi_iload_n (pc' := 26) (x := a16) kc_16_25 rfl rfl ?_
              refine xi_iload_n (pc' := 27) (x := a14) kc_16_26 rfl rfl ?_
              refine xi_iff (pc' := 30) kc_16_27 rfl (xc_ne_f (X := a14.toInt) (Y := 0) rfl (by decide) (by omega)) ?_
              refine xi_bipush (pc' := 32) (v := (-20)) kc_16_30 rfl rfl ?_
              refine xi_goto (pc' := 36) kc_16_32 rfl ?_
              refine xi_cmt (pc' := 46) kc_16_36 rfl (xc_ge_t (X := a16.toInt) (Y := (-20)) rfl (by decide) (by omega)) ?_
              refine xi_iload_n (pc' := 47) (x := a12) kc_16_46 rfl rfl ?_
              refine xi_sipush (pc' := 50) (v := 599) kc_16_47 rfl rfl ?_
              refine xi_cmf (pc' := 53) kc_16_50 rfl (xc_gt_f (X := a12.toInt) (Y := 599) rfl (by decide) (by omega)) ?_
              refine xi_iload_n (pc' := 54) (x := a16) kc_16_53 rfl rfl ?_
              refine xi_iload_n (pc' := 55) (x := a14) kc_16_54 rfl rfl ?_
              refine xi_iff (pc' := 58) kc_16_55 rfl (xc_ne_f (X := a14.toInt) (Y := 0) rfl (by decide) (by omega)) ?_
              refine xi_bipush (pc' := 60) (v := 30) kc_16_58 rfl rfl ?_
              refine xi_goto (pc' := 65) kc_16_60 rfl ?_
              refine xi_cmf (pc' := 68) kc_16_65 rfl (xc_le_f (X := a16.toInt) (Y := 30) rfl (by decide) (by omega)) ?_
              refine xi_iload_n (pc' := 69) (x := a16) kc_16_68 rfl rfl ?_
              refine xi_bipush (pc' := 71) (v := 99) kc_16_69 rfl rfl ?_
              refine xi_cmf (pc' := 74) kc_16_71 rfl (xc_eq_f (X := a16.toInt) (Y := 99) rfl (by decide) (by omega)) ?_
              refine xi_aload_n (pc' := 75) (x := 115) kc_16_74 rfl rfl ?_
              refine xi_bipush (pc' := 77) (v := (-6)) kc_16_75 rfl rfl ?_
              refine xi_virtual (mj := 17) (as := [.int (-6)]) (st1 := []) (lv0 := [(0, .ref 115), (1, .int (-6))]) kc_16_77 rfl rfl rfl rfl rfl eh330.1 (Nat.le_of_ble_eq_true rfl) (hJ _ _ _ _ (by decide)) (xm_le ml_17 rfl) rfl ?_
              refine xi_aload_n (pc' := 1) (x := 115) kc_17_0 rfl rfl ?_
              refine xi_getfield (pc' := 4) (v := .ref 140) kc_17_1 rfl rfl rfl eh330.1 rfl ?_
              refine xi_iload_n (pc' := 5) (x := (-6)) kc_17_4 rfl rfl ?_
              refine xi_ineg (pc' := 6) (v := 6) kc_17_5 rfl rfl ?_
              refine xi_dup2 (pc' := 7) kc_17_6 rfl ⟨rfl, rfl⟩ ?_
              obtain ⟨y333, A333, hy333, ry333⟩ := xk_arr K.1 xD_140
              obtain ⟨v334, ev334, bv334, dv334⟩ := xj_get hy333 ry333 (i := 6) (by decide) (by decide)
              have A335 := ((eh330.2.1 140 (by decide)).trans ((eh313.2.1 140 (by decide)).trans A333))
              refine xi_iaload (pc' := 8) (v := v334) kc_17_7 rfl A335 (by decide) rfl (xi_in (by decide) (by rw [hy333]; decide)) ev334 ?_
              refine xi_iconst (pc' := 9) (v := 1) kc_17_8 rfl rfl ?_
              obtain ⟨v336, ev336⟩ : ∃ q : Int32, (v334 : Int32) + 1 = q := ⟨_, rfl⟩
              have rv336 := xc_rng v336
              refine xi_iadd (pc' := 10) (v := v336) kc_17_9 rfl ev336 ?_
              obtain ⟨y337, s337, hy337, ry337⟩ := xj_set (v := v336) hy333 ry333 6 (by first | omega | decide) (by first | omega | decide)
              refine xi_iastore (pc' := 11) (x' := y337) kc_17_10 rfl A335 rfl (xi_in (by decide) (by rw [hy333]; decide)) s337 (fun hh337 eh337 => ?_)
              have K338 := xk_pa K332 (xk_wa rfl) xD_140 hy337 ry337 eh337
              refine xi_ldc (pc' := 13) (v := 1000000000) kc_17_11 rfl rfl ?_
              refine xi_iload_n (pc' := 14) (x := (-6)) kc_17_13 rfl rfl ?_
              refine xi_isub (pc' := 15) (v := 1000000006) kc_17_14 rfl rfl ?_
              refine xi_ireturn kc_17_15 mr_17 rfl ?_
              show xw J ov 99 16 (80, [(0, .ref 115), (1, .int a12), (2, .int a14), (3, .int a16)], [.int 1000000006], hh337) _
              refine xi_ireturn kc_16_80 mr_16 rfl ?_
              show xw J ov 100 195 (334, [(4, .int x4), (3, .ref 167), (2, .ref 115), (1, .ref 0), (0, .ref 1000000)], [.int 1000000006, .int 1000000006], hh337) _
              refine xi_cmt (pc' := 1501) kc_195_334 rfl rfl ?_
              obtain ⟨v339, ev339⟩ : ∃ q : Int32, x4 + 6 = q := ⟨_, rfl⟩
              have zv339 : v339.toInt = (x4.toInt + 6) := by rw [← ev339]; exact (xz_add (X := x4.toInt) (Y := 6) rfl (by decide) (by omega) (by omega)).trans (by omega)
              refine xi_iinc (pc' := 1504) (x := x4) (v := v339) (lv' := [(4, .int v339), (3, .ref 167), (2, .ref 115), (1, .ref 0), (0, .ref 1000000)]) kc_195_1501 rfl rfl ev339 rfl (xm_lt ml_195 rfl) ?_
              refine xi_goto (pc' := 23) kc_195_1504 rfl ?_
              have A340 := ((eh337.2.1 6 (by decide)).trans ((eh330.2.1 6 (by decide)).trans ((eh313.2.1 6 (by decide)).trans A1)))
              have A341 := ((eh337.2.1 123 (by decide)).trans ((eh330.2.1 123 (by decide)).trans ((eh313.2.1 123 (by decide)).trans A2)))
              have A342 := ((eh337.2.1 9 (by decide)).trans ((eh330.2.1 9 (by decide)).trans ((eh313.2.1 9 (by decide)).trans A3)))
              have A343 := ((eh337.2.1 124 (by decide)).trans ((eh330.2.1 124 (by decide)).trans ((eh313.2.1 124 (by decide)).trans A4)))
              have A344 := ((eh337.2.1 7 (by decide)).trans ((eh330.2.1 7 (by decide)).trans ((eh313.2.1 7 (by decide)).trans A5)))
              have A345 := ((eh337.2.1 10 (by decide)).trans ((eh330.2.1 10 (by decide)).trans ((eh313.2.1 10 (by decide)).trans A6)))
              have A346 := ((eh337.2.1 5 (by decide)).trans ((eh330.2.1 5 (by decide)).trans ((eh313.2.1 5 (by decide)).trans A8)))
              have A347 := ((eh337.2.1 8 (by decide)).trans ((eh330.2.1 8 (by decide)).trans ((eh313.2.1 8 (by decide)).trans A10)))
              exact kk v339 hh337 (by omega) K338 ⟨(xE_mk A340 A341 H0), (xE_mk A342 A343 H1), (xL_mk A344 A340 H2), (xL_mk A345 A342 H3), (xl_of A346 rfl), (xl_of A347 rfl)⟩
      · refine xi_cmf (pc' := 51) kc_95_48 rfl (xc_ge_f (X := a16.toInt) (Y := (-20)) rfl (by decide) (by omega)) ?_
        refine xi_aload_n (pc' := 52) (x := 0) kc_95_51 rfl rfl ?_
        refine xi_bipush (pc' := 54) (v := (-4)) kc_95_52 rfl rfl ?_
        refine xi_virtual (mj := 96) (as := [.int (-4)]) (st1 := []) (lv0 := [(0, .ref 0), (1, .int (-4))]) kc_95_54 rfl rfl rfl rfl rfl A19 (Nat.le_of_ble_eq_true rfl) (hJ _ _ _ _ (by decide)) (xm_le ml_96 rfl) rfl ?_
        refine xi_ldc_w (pc' := 3) (v := 1000000000) kc_96_0 rfl rfl ?_
        refine xi_aload_n (pc' := 4) (x := 0) kc_96_3 rfl rfl ?_
        refine xi_iload_n (pc' := 5) (x := (-4)) kc_96_4 rfl rfl ?_
        refine xi_virtual (mj := 90) (as := [.int (-4)]) (st1 := [.int 1000000000]) (lv0 := [(0, .ref 0), (1, .int (-4))]) kc_96_5 rfl rfl rfl rfl rfl A19 (Nat.le_of_ble_eq_true rfl) (hJ _ _ _ _ (by decide)) (xm_le ml_90 rfl) rfl ?_
        refine xi_iload_n (pc' := 1) (x := (-4)) kc_90_0 rfl rfl ?_
        refine xi_ineg (pc' := 2) (v := 4) kc_90_1 rfl rfl ?_
        refine xi_istore_n (pc' := 3) (lv' := [(2, .int 4), (0, .ref 0), (1, .int (-4))]) kc_90_2 rfl rfl (xm_lt ml_90 rfl) ?_
        refine xi_iload_n (pc' := 4) (x := 4) kc_90_3 rfl rfl ?_
        refine xi_iff (pc' := 7) kc_90_4 rfl rfl ?_
        refine xi_iload_n (pc' := 8) (x := 4) kc_90_7 rfl rfl ?_
        refine xi_aload_n (pc' := 9) (x := 0) kc_90_8 rfl rfl ?_
        refine xi_getfield (pc' := 12) (v := .ref 94) kc_90_9 rfl rfl rfl A19 rfl ?_
        obtain ⟨y348, A348, hy348, ry348⟩ := xk_arr K.1 xD_94
        refine xi_arraylength (pc' := 13) (n := 7) (v := 7) kc_90_12 rfl (xl_lenI (by decide) (by decide) A348 hy348) rfl ?_
        refine xi_cmf (pc' := 16) kc_90_13 rfl rfl ?_
        refine xi_aload_n (pc' := 17) (x := 0) kc_90_16 rfl rfl ?_
        refine xi_getfield (pc' := 20) (v := .ref 94) kc_90_17 rfl rfl rfl A19 rfl ?_
        refine xi_iload_n (pc' := 21) (x := 4) kc_90_20 rfl rfl ?_
        refine xi_dup2 (pc' := 22) kc_90_21 rfl ⟨rfl, rfl⟩ ?_
        obtain ⟨v349, ev349, bv349, dv349⟩ := xj_get hy348 ry348 (i := 4) (by decide) (by decide)
        refine xi_iaload (pc' := 23) (v := v349) kc_90_22 rfl A348 (by decide) rfl (xi_in (by decide) (by rw [hy348]; decide)) ev349 ?_
        refine xi_iconst (pc' := 24) (v := 1) kc_90_23 rfl rfl ?_
        obtain ⟨v350, ev350⟩ : ∃ q : Int32, (v349 : Int32) + 1 = q := ⟨_, rfl⟩
        have rv350 := xc_rng v350
        refine xi_iadd (pc' := 25) (v := v350) kc_90_24 rfl ev350 ?_
        obtain ⟨y351, s351, hy351, ry351⟩ := xj_set (v := v350) hy348 ry348 4 (by first | omega | decide) (by first | omega | decide)
        refine xi_iastore (pc' := 26) (x' := y351) kc_90_25 rfl A348 rfl (xi_in (by decide) (by rw [hy348]; decide)) s351 (fun hh351 eh351 => ?_)
        have K352 := xk_pa K (xk_wa rfl) xD_94 hy351 ry351 eh351
        refine xi_iload_n (pc' := 27) (x := (-4)) kc_90_26 rfl rfl ?_
        refine xi_ireturn kc_90_27 mr_90 rfl ?_
        show xw J ov 98 96 (8, [(0, .ref 0), (1, .int (-4))], [.int (-4), .int 1000000000], hh351) _
        refine xi_isub (pc' := 9) (v := 1000000004) kc_96_8 rfl rfl ?_
        refine xi_ireturn kc_96_9 mr_96 rfl ?_
        show xw J ov 99 95 (57, [(5, .int 30), (4, .int (-20)), (0, .ref 0), (1, .int a12), (2, .int a14), (3, .int a16)], [.int 1000000004], hh351) _
        refine xi_ireturn kc_95_57 mr_95 rfl ?_
        show xw J ov 100 195 (312, [(4, .int x4), (3, .ref 167), (2, .ref 115), (1, .ref 0), (0, .ref 1000000)], [.int 1000000004], hh351) _
        refine xi_aload_n (pc' := 313) (x := 115) kc_195_312 rfl rfl ?_
        refine xi_aload_n (pc' := 314) (x := 1000000) kc_195_313 rfl rfl ?_
        refine xi_iload (pc' := 316) (x := x4) kc_195_314 rfl rfl ?_
        refine xi_iconst (pc' := 317) (v := 1) kc_195_316 rfl rfl ?_
        refine xi_iadd (pc' := 318) (v := v11) kc_195_317 rfl ev11 ?_
        refine xi_ialoadO (pc' := 319) (v := a12) kc_195_318 rfl (by decide) hov0 (xi_in (by omega) (by omega)) ea12 ?_
        refine xi_aload_n (pc' := 320) (x := 1000000) kc_195_319 rfl rfl ?_
        refine xi_iload (pc' := 322) (x := x4) kc_195_320 rfl rfl ?_
        refine xi_iconst (pc' := 323) (v := 2) kc_195_322 rfl rfl ?_
        refine xi_iadd (pc' := 324) (v := v13) kc_195_323 rfl ev13 ?_
        refine xi_ialoadO (pc' := 325) (v := a14) kc_195_324 rfl (by decide) hov0 (xi_in (by omega) (by omega)) ea14 ?_
        refine xi_aload_n (pc' := 326) (x := 1000000) kc_195_325 rfl rfl ?_
        refine xi_iload (pc' := 328) (x := x4) kc_195_326 rfl rfl ?_
        refine xi_iconst (pc' := 329) (v := 3) kc_195_328 rfl rfl ?_
        refine xi_iadd (pc' := 330) (v := v15) kc_195_329 rfl ev15 ?_
        refine xi_ialoadO (pc' := 331) (v := a16) kc_195_330 rfl (by decide) hov0 (xi_in (by omega) (by omega)) ea16 ?_
        obtain ⟨u353, u354, u355, u356, u357, u358, u359, u360, u361, u362, u363, u364, u365, bu353, bu354, bu355, bu356, bu357, bu358, bu359, bu360, bu361, bu362, bu363, bu364, bu365, A366⟩ := xq_115 K.1
        have A367 := ((eh351.2.1 115 (by decide)).trans A366)
        refine xi_virtual (mj := 16) (as := [.int a12, .int a14, .int a16]) (st1 := [.int 1000000004]) (lv0 := [(0, .ref 115), (1, .int a12), (2, .int a14), (3, .int a16)]) kc_195_331 rfl rfl rfl rfl rfl A367 (Nat.le_of_ble_eq_true rfl) (hJ _ _ _ _ (by decide)) (xm_le ml_16 rfl) rfl ?_
        refine xi_aload_n (pc' := 1) (x := 115) kc_16_0 rfl rfl ?_
        refine xi_iconst (pc' := 2) (v := 0) kc_16_1 rfl rfl ?_
        refine xi_putfield (pc' := 5) (fs' := [.int 0, .int u354, .ref 116, .ref 117, .ref 118, .ref 119, .ref 120, .ref 121, .ref 122, .ref 123, .ref 124, .ref 125, .ref 126, .ref 127, .ref 128, .ref 129, .int u355, .ref 130, .int u356, .ref 131, .ref 132, .ref 133, .ref 134, .int u357, .ref 135, .ref 136, .ref 137, .ref 138, .ref 139, .ref 140, .ref 141, .ref 142, .int u358, .int u359, .int u360, .ref 143, .ref 144, .ref 145, .ref 146, .ref 147, .ref 148, .int u361, .ref 149, .ref 150, .ref 151, .int u362, .ref 152, .ref 153, .ref 154, .ref 155, .ref 156, .ref 157, .ref 158, .ref 159, .int u363, .ref 160, .int u364, .ref 161, .ref 162, .ref 163, .ref 164, .int u365, .ref 165, .ref 166]) kc_16_2 rfl rfl rfl A367 rfl rfl rfl (Nat.le_of_ble_eq_true rfl) rfl (fun hh369 eh368 => ?_)
        have K370 := xk_pf (k := 0) (v := 0) K352 (xk_wf rfl) xD_115 A367 rfl (by first | omega | decide) (by first | omega | decide) eh368 rfl
        refine xi_iload_n (pc' := 6) (x := a14) kc_16_5 rfl rfl ?_
        refine xi_iconst (pc' := 7) (v := 0) kc_16_6 rfl rfl ?_
        refine xi_iconst (pc' := 8) (v := 1) kc_16_7 rfl rfl ?_
        refine xi_static (mj := 11) (as := [.int a14, .int 0, .int 1]) (st1 := []) (lv0 := [(0, .int a14), (1, .int 0), (2, .int 1)]) kc_16_8 rfl rfl (Nat.le_of_ble_eq_true rfl) rfl rfl (Nat.le_of_ble_eq_true rfl) (hJ _ _ _ _ (by decide)) (xm_le ml_11 rfl) rfl ?_
        refine xi_iload_n (pc' := 1) (x := a14) kc_11_0 rfl rfl ?_
        refine xi_iload_n (pc' := 2) (x := 0) kc_11_1 rfl rfl ?_
        refine xi_cmf (pc' := 5) kc_11_2 rfl (xc_lt_f (X := a14.toInt) (Y := 0) rfl (by decide) (by omega)) ?_
        refine xi_iload_n (pc' := 6) (x := a14) kc_11_5 rfl rfl ?_
        refine xi_iload_n (pc' := 7) (x := 1) kc_11_6 rfl rfl ?_
        refine xi_cmf (pc' := 10) kc_11_7 rfl (xc_gt_f (X := a14.toInt) (Y := 1) rfl (by decide) (by omega)) ?_
        refine xi_iconst (pc' := 11) (v := 1) kc_11_10 rfl rfl ?_
        refine xi_goto (pc' := 15) kc_11_11 rfl ?_
        refine xi_ireturn kc_11_15 mr_11 rfl ?_
        show xw J ov 99 16 (11, [(0, .ref 115), (1, .int a12), (2, .int a14), (3, .int a16)], [.int 1], hh369) _
        refine xi_ift (pc' := 21) kc_16_11 rfl rfl ?_
        refine xi_iload_n (pc' := 22) (x := a12) kc_16_21 rfl rfl ?_
        refine xi_iff (pc' := 25) kc_16_22 rfl (xc_lt_f (X := a12.toInt) (Y := 0) rfl (by decide) (by omega)) ?_
        refine xi_iload_n (pc' := 26) (x := a16) kc_16_25 rfl rfl ?_
        refine xi_iload_n (pc' := 27) (x := a14) kc_16_26 rfl rfl ?_
        refine xi_iff (pc' := 30) kc_16_27 rfl (xc_ne_f (X := a14.toInt) (Y := 0) rfl (by decide) (by omega)) ?_
        refine xi_bipush (pc' := 32) (v := (-20)) kc_16_30 rfl rfl ?_
        refine xi_goto (pc' := 36) kc_16_32 rfl ?_
        refine xi_cmf (pc' := 39) kc_16_36 rfl (xc_ge_f (X := a16.toInt) (Y := (-20)) rfl (by decide) (by omega)) ?_
        refine xi_aload_n (pc' := 40) (x := 115) kc_16_39 rfl rfl ?_
        refine xi_bipush (pc' := 42) (v := (-4)) kc_16_40 rfl rfl ?_
        refine xi_virtual (mj := 17) (as := [.int (-4)]) (st1 := []) (lv0 := [(0, .ref 115), (1, .int (-4))]) kc_16_42 rfl rfl rfl rfl rfl eh368.1 (Nat.le_of_ble_eq_true rfl) (hJ _ _ _ _ (by decide)) (xm_le ml_17 rfl) rfl ?_
        refine xi_aload_n (pc' := 1) (x := 115) kc_17_0 rfl rfl ?_
        refine xi_getfield (pc' := 4) (v := .ref 140) kc_17_1 rfl rfl rfl eh368.1 rfl ?_
        refine xi_iload_n (pc' := 5) (x := (-4)) kc_17_4 rfl rfl ?_
        refine xi_ineg (pc' := 6) (v := 4) kc_17_5 rfl rfl ?_
        refine xi_dup2 (pc' := 7) kc_17_6 rfl ⟨rfl, rfl⟩ ?_
        obtain ⟨y371, A371, hy371, ry371⟩ := xk_arr K.1 xD_140
        obtain ⟨v372, ev372, bv372, dv372⟩ := xj_get hy371 ry371 (i := 4) (by decide) (by decide)
        have A373 := ((eh368.2.1 140 (by decide)).trans ((eh351.2.1 140 (by decide)).trans A371))
        refine xi_iaload (pc' := 8) (v := v372) kc_17_7 rfl A373 (by decide) rfl (xi_in (by decide) (by rw [hy371]; decide)) ev372 ?_
        refine xi_iconst (pc' := 9) (v := 1) kc_17_8 rfl rfl ?_
        obtain ⟨v374, ev374⟩ : ∃ q : Int32, (v372 : Int32) + 1 = q := ⟨_, rfl⟩
        have rv374 := xc_rng v374
        refine xi_iadd (pc' := 10) (v := v374) kc_17_9 rfl ev374 ?_
        obtain ⟨y375, s375, hy375, ry375⟩ := xj_set (v := v374) hy371 ry371 4 (by first | omega | decide) (by first | omega | decide)
        refine xi_iastore (pc' := 11) (x' := y375) kc_17_10 rfl A373 rfl (xi_in (by decide) (by rw [hy371]; decide)) s375 (fun hh375 eh375 => ?_)
        have K376 := xk_pa K370 (xk_wa rfl) xD_140 hy375 ry375 eh375
        refine xi_ldc (pc' := 13) (v := 1000000000) kc_17_11 rfl rfl ?_
        refine xi_iload_n (pc' := 14) (x := (-4)) kc_17_13 rfl rfl ?_
        refine xi_isub (pc' := 15) (v := 1000000004) kc_17_14 rfl rfl ?_
        refine xi_ireturn kc_17_15 mr_17 rfl ?_
        show xw J ov 99 16 (45, [(0, .ref 115), (1, .int a12), (2, .int a14), (3, .int a16)], [.int 1000000004], hh375) _
        refine xi_ireturn kc_16_45 mr_16 rfl ?_
        show xw J ov 100 195 (334, [(4, .int x4), (3, .ref 167), (2, .ref 115), (1, .ref 0), (0, .ref 1000000)], [.int 1000000004, .int 1000000004], hh375) _
        refine xi_cmt (pc' := 1501) kc_195_334 rfl rfl ?_
        obtain ⟨v377, ev377⟩ : ∃ q : Int32, x4 + 6 = q := ⟨_, rfl⟩
        have zv377 : v377.toInt = (x4.toInt + 6) := by rw [← ev377]; exact (xz_add (X := x4.toInt) (Y := 6) rfl (by decide) (by omega) (by omega)).trans (by omega)
        refine xi_iinc (pc' := 1504) (x := x4) (v := v377) (lv' := [(4, .int v377), (3, .ref 167), (2, .ref 115), (1, .ref 0), (0, .ref 1000000)]) kc_195_1501 rfl rfl ev377 rfl (xm_lt ml_195 rfl) ?_
        refine xi_goto (pc' := 23) kc_195_1504 rfl ?_
        have A378 := ((eh375.2.1 6 (by decide)).trans ((eh368.2.1 6 (by decide)).trans ((eh351.2.1 6 (by decide)).trans A1)))
        have A379 := ((eh375.2.1 123 (by decide)).trans ((eh368.2.1 123 (by decide)).trans ((eh351.2.1 123 (by decide)).trans A2)))
        have A380 := ((eh375.2.1 9 (by decide)).trans ((eh368.2.1 9 (by decide)).trans ((eh351.2.1 9 (by decide)).trans A3)))
        have A381 := ((eh375.2.1 124 (by decide)).trans ((eh368.2.1 124 (by decide)).trans ((eh351.2.1 124 (by decide)).trans A4)))
        have A382 := ((eh375.2.1 7 (by decide)).trans ((eh368.2.1 7 (by decide)).trans ((eh351.2.1 7 (by decide)).trans A5)))
        have A383 := ((eh375.2.1 10 (by decide)).trans ((eh368.2.1 10 (by decide)).trans ((eh351.2.1 10 (by decide)).trans A6)))
        have A384 := ((eh375.2.1 5 (by decide)).trans ((eh368.2.1 5 (by decide)).trans ((eh351.2.1 5 (by decide)).trans A8)))
        have A385 := ((eh375.2.1 8 (by decide)).trans ((eh368.2.1 8 (by decide)).trans ((eh351.2.1 8 (by decide)).trans A10)))
        exact kk v377 hh375 (by omega) K376 ⟨(xE_mk A378 A379 H0), (xE_mk A380 A381 H1), (xL_mk A382 A378 H2), (xL_mk A383 A380 H3), (xl_of A384 rfl), (xl_of A385 rfl)⟩
  · refine xi_iff (pc' := 4) kc_95_1 rfl (xc_eq_f (X := a14.toInt) (Y := 0) rfl (by decide) (by omega)) ?_
    refine xi_iload_n (pc' := 5) (x := a14) kc_95_4 rfl rfl ?_
    refine xi_iconst (pc' := 6) (v := 1) kc_95_5 rfl rfl ?_
    by_cases c386 : a14.toInt = 1
    · refine xi_cmt (pc' := 16) kc_95_6 rfl (xc_eq_t (X := a14.toInt) (Y := 1) rfl (by decide) (by omega)) ?_
      refine xi_iload_n (pc' := 17) (x := a14) kc_95_16 rfl rfl ?_
      refine xi_ift (pc' := 25) kc_95_17 rfl (xc_ne_t (X := a14.toInt) (Y := 0) rfl (by decide) (by omega)) ?_
      refine xi_iconst (pc' := 26) (v := 0) kc_95_25 rfl rfl ?_
      refine xi_istore (pc' := 28) (lv' := [(4, .int 0), (0, .ref 0), (1, .int a12), (2, .int a14), (3, .int a16)]) kc_95_26 rfl rfl (xm_lt ml_95 rfl) ?_
      refine xi_iload_n (pc' := 29) (x := a14) kc_95_28 rfl rfl ?_
      refine xi_ift (pc' := 37) kc_95_29 rfl (xc_ne_t (X := a14.toInt) (Y := 0) rfl (by decide) (by omega)) ?_
      refine xi_bipush (pc' := 39) (v := 20) kc_95_37 rfl rfl ?_
      refine xi_istore (pc' := 41) (lv' := [(5, .int 20), (4, .int 0), (0, .ref 0), (1, .int a12), (2, .int a14), (3, .int a16)]) kc_95_39 rfl rfl (xm_lt ml_95 rfl) ?_
      refine xi_iload_n (pc' := 42) (x := a12) kc_95_41 rfl rfl ?_
      by_cases c387 : a12.toInt < 0
      · refine xi_ift (pc' := 51) kc_95_42 rfl (xc_lt_t (X := a12.toInt) (Y := 0) rfl (by decide) (by omega)) ?_
        refine xi_aload_n (pc' := 52) (x := 0) kc_95_51 rfl rfl ?_
        refine xi_bipush (pc' := 54) (v := (-4)) kc_95_52 rfl rfl ?_
        refine xi_virtual (mj := 96) (as := [.int (-4)]) (st1 := []) (lv0 := [(0, .ref 0), (1, .int (-4))]) kc_95_54 rfl rfl rfl rfl rfl A19 (Nat.le_of_ble_eq_true rfl) (hJ _ _ _ _ (by decide)) (xm_le ml_96 rfl) rfl ?_
        refine xi_ldc_w (pc' := 3) (v := 1000000000) kc_96_0 rfl rfl ?_
        refine xi_aload_n (pc' := 4) (x := 0) kc_96_3 rfl rfl ?_
        refine xi_iload_n (pc' := 5) (x := (-4)) kc_96_4 rfl rfl ?_
        refine xi_virtual (mj := 90) (as := [.int (-4)]) (st1 := [.int 1000000000]) (lv0 := [(0, .ref 0), (1, .int (-4))]) kc_96_5 rfl rfl rfl rfl rfl A19 (Nat.le_of_ble_eq_true rfl) (hJ _ _ _ _ (by decide)) (xm_le ml_90 rfl) rfl ?_
        refine xi_iload_n (pc' := 1) (x := (-4)) kc_90_0 rfl rfl ?_
        refine xi_ineg (pc' := 2) (v := 4) kc_90_1 rfl rfl ?_
        refine xi_istore_n (pc' := 3) (lv' := [(2, .int 4), (0, .ref 0), (1, .int (-4))]) kc_90_2 rfl rfl (xm_lt ml_90 rfl) ?_
        refine xi_iload_n (pc' := 4) (x := 4) kc_90_3 rfl rfl ?_
        refine xi_iff (pc' := 7) kc_90_4 rfl rfl ?_
        refine xi_iload_n (pc' := 8) (x := 4) kc_90_7 rfl rfl ?_
        refine xi_aload_n (pc' := 9) (x := 0) kc_90_8 rfl rfl ?_
        refine xi_getfield (pc' := 12) (v := .ref 94) kc_90_9 rfl rfl rfl A19 rfl ?_
        obtain ⟨y388, A388, hy388, ry388⟩ := xk_arr K.1 xD_94
        refine xi_arraylength (pc' := 13) (n := 7) (v := 7) kc_90_12 rfl (xl_lenI (by decide) (by decide) A388 hy388) rfl ?_
        refine xi_cmf (pc' := 16) kc_90_13 rfl rfl ?_
        refine xi_aload_n (pc' := 17) (x := 0) kc_90_16 rfl rfl ?_
        refine xi_getfield (pc' := 20) (v := .ref 94) kc_90_17 rfl rfl rfl A19 rfl ?_
        refine xi_iload_n (pc' := 21) (x := 4) kc_90_20 rfl rfl ?_
        refine xi_dup2 (pc' := 22) kc_90_21 rfl ⟨rfl, rfl⟩ ?_
        obtain ⟨v389, ev389, bv389, dv389⟩ := xj_get hy388 ry388 (i := 4) (by decide) (by decide)
        refine xi_iaload (pc' := 23) (v := v389) kc_90_22 rfl A388 (by decide) rfl (xi_in (by decide) (by rw [hy388]; decide)) ev389 ?_
        refine xi_iconst (pc' := 24) (v := 1) kc_90_23 rfl rfl ?_
        obtain ⟨v390, ev390⟩ : ∃ q : Int32, (v389 : Int32) + 1 = q := ⟨_, rfl⟩
        have rv390 := xc_rng v390
        refine xi_iadd (pc' := 25) (v := v390) kc_90_24 rfl ev390 ?_
        obtain ⟨y391, s391, hy391, ry391⟩ := xj_set (v := v390) hy388 ry388 4 (by first | omega | decide) (by first | omega | decide)
        refine xi_iastore (pc' := 26) (x' := y391) kc_90_25 rfl A388 rfl (xi_in (by decide) (by rw [hy388]; decide)) s391 (fun hh391 eh391 => ?_)
        have K392 := xk_pa K (xk_wa rfl) xD_94 hy391 ry391 eh391
        refine xi_iload_n (pc' := 27) (x := (-4)) kc_90_26 rfl rfl ?_
        refine xi_ireturn kc_90_27 mr_90 rfl ?_
        show xw J ov 98 96 (8, [(0, .ref 0), (1, .int (-4))], [.int (-4), .int 1000000000], hh391) _
        refine xi_isub (pc' := 9) (v := 1000000004) kc_96_8 rfl rfl ?_
        refine xi_ireturn kc_96_9 mr_96 rfl ?_
        show xw J ov 99 95 (57, [(5, .int 20), (4, .int 0), (0, .ref 0), (1, .int a12), (2, .int a14), (3, .int a16)], [.int 1000000004], hh391) _
        refine xi_ireturn kc_95_57 mr_95 rfl ?_
        show xw J ov 100 195 (312, [(4, .int x4), (3, .ref 167), (2, .ref 115), (1, .ref 0), (0, .ref 1000000)], [.int 1000000004], hh391) _
        refine xi_aload_n (pc' := 313) (x := 115) kc_195_312 rfl rfl ?_
        refine xi_aload_n (pc' := 314) (x := 1000000) kc_195_313 rfl rfl ?_
        refine xi_iload (pc' := 316) (x := x4) kc_195_314 rfl rfl ?_
        refine xi_iconst (pc' := 317) (v := 1) kc_195_316 rfl rfl ?_
        refine xi_iadd (pc' := 318) (v := v11) kc_195_317 rfl ev11 ?_
        refine xi_ialoadO (pc' := 319) (v := a12) kc_195_318 rfl (by decide) hov0 (xi_in (by omega) (by omega)) ea12 ?_
        refine xi_aload_n (pc' := 320) (x := 1000000) kc_195_319 rfl rfl ?_
        refine xi_iload (pc' := 322) (x := x4) kc_195_320 rfl rfl ?_
        refine xi_iconst (pc' := 323) (v := 2) kc_195_322 rfl rfl ?_
        refine xi_iadd (pc' := 324) (v := v13) kc_195_323 rfl ev13 ?_
        refine xi_ialoadO (pc' := 325) (v := a14) kc_195_324 rfl (by decide) hov0 (xi_in (by omega) (by omega)) ea14 ?_
        refine xi_aload_n (pc' := 326) (x := 1000000) kc_195_325 rfl rfl ?_
        refine xi_iload (pc' := 328) (x := x4) kc_195_326 rfl rfl ?_
        refine xi_iconst (pc' := 329) (v := 3) kc_195_328 rfl rfl ?_
        refine xi_iadd (pc' := 330) (v := v15) kc_195_329 rfl ev15 ?_
        refine xi_ialoadO (pc' := 331) (v := a16) kc_195_330 rfl (by decide) hov0 (xi_in (by omega) (by omega)) ea16 ?_
        obtain ⟨u393, u394, u395, u396, u397, u398, u399, u400, u401, u402, u403, u404, u405, bu393, bu394, bu395, bu396, bu397, bu398, bu399, bu400, bu401, bu402, bu403, bu404, bu405, A406⟩ := xq_115 K.1
        have A407 := ((eh391.2.1 115 (by decide)).trans A406)
        refine xi_virtual (mj := 16) (as := [.int a12, .int a14, .int a16]) (st1 := [.int 1000000004]) (lv0 := [(0, .ref 115), (1, .int a12), (2, .int a14), (3, .int a16)]) kc_195_331 rfl rfl rfl rfl rfl A407 (Nat.le_of_ble_eq_true rfl) (hJ _ _ _ _ (by decide)) (xm_le ml_16 rfl) rfl ?_
        refine xi_aload_n (pc' := 1) (x := 115) kc_16_0 rfl rfl ?_
        refine xi_iconst (pc' := 2) (v := 0) kc_16_1 rfl rfl ?_
        refine xi_putfield (pc' := 5) (fs' := [.int 0, .int u394, .ref 116, .ref 117, .ref 118, .ref 119, .ref 120, .ref 121, .ref 122, .ref 123, .ref 124, .ref 125, .ref 126, .ref 127, .ref 128, .ref 129, .int u395, .ref 130, .int u396, .ref 131, .ref 132, .ref 133, .ref 134, .int u397, .ref 135, .ref 136, .ref 137, .ref 138, .ref 139, .ref 140, .ref 141, .ref 142, .int u398, .int u399, .int u400, .ref 143, .ref 144, .ref 145, .ref 146, .ref 147, .ref 148, .int u401, .ref 149, .ref 150, .ref 151, .int u402, .ref 152, .ref 153, .ref 154, .ref 155, .ref 156, .ref 157, .ref 158, .ref 159, .int u403, .ref 160, .int u404, .ref 161, .ref 162, .ref 163, .ref 164, .int u405, .ref 165, .ref 166]) kc_16_2 rfl rfl rfl A407 rfl rfl rfl (Nat.le_of_ble_eq_true rfl) rfl (fun hh409 eh408 => ?_)
        have K410 := xk_pf (k := 0) (v := 0) K392 (xk_wf rfl) xD_115 A407 rfl (by first | omega | decide) (by first | omega | decide) eh408 rfl
        refine xi_iload_n (pc' := 6) (x := a14) kc_16_5 rfl rfl ?_
        refine xi_iconst (pc' := 7) (v := 0) kc_16_6 rfl rfl ?_
        refine xi_iconst (pc' := 8) (v := 1) kc_16_7 rfl rfl ?_
        refine xi_static (mj := 11) (as := [.int a14, .int 0, .int 1]) (st1 := []) (lv0 := [(0, .int a14), (1, .int 0), (2, .int 1)]) kc_16_8 rfl rfl (Nat.le_of_ble_eq_true rfl) rfl rfl (Nat.le_of_ble_eq_true rfl) (hJ _ _ _ _ (by decide)) (xm_le ml_11 rfl) rfl ?_
        refine xi_iload_n (pc' := 1) (x := a14) kc_11_0 rfl rfl ?_
        refine xi_iload_n (pc' := 2) (x := 0) kc_11_1 rfl rfl ?_
        refine xi_cmf (pc' := 5) kc_11_2 rfl (xc_lt_f (X := a14.toInt) (Y := 0) rfl (by decide) (by omega)) ?_
        refine xi_iload_n (pc' := 6) (x := a14) kc_11_5 rfl rfl ?_
        refine xi_iload_n (pc' := 7) (x := 1) kc_11_6 rfl rfl ?_
        refine xi_cmf (pc' := 10) kc_11_7 rfl (xc_gt_f (X := a14.toInt) (Y := 1) rfl (by decide) (by omega)) ?_
        refine xi_iconst (pc' := 11) (v := 1) kc_11_10 rfl rfl ?_
        refine xi_goto (pc' := 15) kc_11_11 rfl ?_
        refine xi_ireturn kc_11_15 mr_11 rfl ?_
        show xw J ov 99 16 (11, [(0, .ref 115), (1, .int a12), (2, .int a14), (3, .int a16)], [.int 1], hh409) _
        refine xi_ift (pc' := 21) kc_16_11 rfl rfl ?_
        refine xi_iload_n (pc' := 22) (x := a12) kc_16_21 rfl rfl ?_
        refine xi_ift (pc' := 39) kc_16_22 rfl (xc_lt_t (X := a12.toInt) (Y := 0) rfl (by decide) (by omega)) ?_
        refine xi_aload_n (pc' := 40) (x := 115) kc_16_39 rfl rfl ?_
        refine xi_bipush (pc' := 42) (v := (-4)) kc_16_40 rfl rfl ?_
        refine xi_virtual (mj := 17) (as := [.int (-4)]) (st1 := []) (lv0 := [(0, .ref 115), (1, .int (-4))]) kc_16_42 rfl rfl rfl rfl rfl eh408.1 (Nat.le_of_ble_eq_true rfl) (hJ _ _ _ _ (by decide)) (xm_le ml_17 rfl) rfl ?_
        refine xi_aload_n (pc' := 1) (x := 115) kc_17_0 rfl rfl ?_
        refine xi_getfield (pc' := 4) (v := .ref 140) kc_17_1 rfl rfl rfl eh408.1 rfl ?_
        refine xi_iload_n (pc' := 5) (x := (-4)) kc_17_4 rfl rfl ?_
        refine xi_ineg (pc' := 6) (v := 4) kc_17_5 rfl rfl ?_
        refine xi_dup2 (pc' := 7) kc_17_6 rfl ⟨rfl, rfl⟩ ?_
        obtain ⟨y411, A411, hy411, ry411⟩ := xk_arr K.1 xD_140
        obtain ⟨v412, ev412, bv412, dv412⟩ := xj_get hy411 ry411 (i := 4) (by decide) (by decide)
        have A413 := ((eh408.2.1 140 (by decide)).trans ((eh391.2.1 140 (by decide)).trans A411))
        refine xi_iaload (pc' := 8) (v := v412) kc_17_7 rfl A413 (by decide) rfl (xi_in (by decide) (by rw [hy411]; decide)) ev412 ?_
        refine xi_iconst (pc' := 9) (v := 1) kc_17_8 rfl rfl ?_
        obtain ⟨v414, ev414⟩ : ∃ q : Int32, (v412 : Int32) + 1 = q := ⟨_, rfl⟩
        have rv414 := xc_rng v414
        refine xi_iadd (pc' := 10) (v := v414) kc_17_9 rfl ev414 ?_
        obtain ⟨y415, s415, hy415, ry415⟩ := xj_set (v := v414) hy411 ry411 4 (by first | omega | decide) (by first | omega | decide)
        refine xi_iastore (pc' := 11) (x' := y415) kc_17_10 rfl A413 rfl (xi_in (by decide) (by rw [hy411]; decide)) s415 (fun hh415 eh415 => ?_)
        have K416 := xk_pa K410 (xk_wa rfl) xD_140 hy415 ry415 eh415
        refine xi_ldc (pc' := 13) (v := 1000000000) kc_17_11 rfl rfl ?_
        refine xi_iload_n (pc' := 14) (x := (-4)) kc_17_13 rfl rfl ?_
        refine xi_isub (pc' := 15) (v := 1000000004) kc_17_14 rfl rfl ?_
        refine xi_ireturn kc_17_15 mr_17 rfl ?_
        show xw J ov 99 16 (45, [(0, .ref 115), (1, .int a12), (2, .int a14), (3, .int a16)], [.int 1000000004], hh415) _
        refine xi_ireturn kc_16_45 mr_16 rfl ?_
        show xw J ov 100 195 (334, [(4, .int x4), (3, .ref 167), (2, .ref 115), (1, .ref 0), (0, .ref 1000000)], [.int 1000000004, .int 1000000004], hh415) _
        refine xi_cmt (pc' := 1501) kc_195_334 rfl rfl ?_
        obtain ⟨v417, ev417⟩ : ∃ q : Int32, x4 + 6 = q := ⟨_, rfl⟩
        have zv417 : v417.toInt = (x4.toInt + 6) := by rw [← ev417]; exact (xz_add (X := x4.toInt) (Y := 6) rfl (by decide) (by omega) (by omega)).trans (by omega)
        refine xi_iinc (pc' := 1504) (x := x4) (v := v417) (lv' := [(4, .int v417), (3, .ref 167), (2, .ref 115), (1, .ref 0), (0, .ref 1000000)]) kc_195_1501 rfl rfl ev417 rfl (xm_lt ml_195 rfl) ?_
        refine xi_goto (pc' := 23) kc_195_1504 rfl ?_
        have A418 := ((eh415.2.1 6 (by decide)).trans ((eh408.2.1 6 (by decide)).trans ((eh391.2.1 6 (by decide)).trans A1)))
        have A419 := ((eh415.2.1 123 (by decide)).trans ((eh408.2.1 123 (by decide)).trans ((eh391.2.1 123 (by decide)).trans A2)))
        have A420 := ((eh415.2.1 9 (by decide)).trans ((eh408.2.1 9 (by decide)).trans ((eh391.2.1 9 (by decide)).trans A3)))
        have A421 := ((eh415.2.1 124 (by decide)).trans ((eh408.2.1 124 (by decide)).trans ((eh391.2.1 124 (by decide)).trans A4)))
        have A422 := ((eh415.2.1 7 (by decide)).trans ((eh408.2.1 7 (by decide)).trans ((eh391.2.1 7 (by decide)).trans A5)))
        have A423 := ((eh415.2.1 10 (by decide)).trans ((eh408.2.1 10 (by decide)).trans ((eh391.2.1 10 (by decide)).trans A6)))
        have A424 := ((eh415.2.1 5 (by decide)).trans ((eh408.2.1 5 (by decide)).trans ((eh391.2.1 5 (by decide)).trans A8)))
        have A425 := ((eh415.2.1 8 (by decide)).trans ((eh408.2.1 8 (by decide)).trans ((eh391.2.1 8 (by decide)).trans A10)))
        exact kk v417 hh415 (by omega) K416 ⟨(xE_mk A418 A419 H0), (xE_mk A420 A421 H1), (xL_mk A422 A418 H2), (xL_mk A423 A420 H3), (xl_of A424 rfl), (xl_of A425 rfl)⟩
      · refine xi_iff (pc' := 45) kc_95_42 rfl (xc_lt_f (X := a12.toInt) (Y := 0) rfl (by decide) (by omega)) ?_
        refine xi_iload_n (pc' := 46) (x := a16) kc_95_45 rfl rfl ?_
        refine xi_iload (pc' := 48) (x := 0) kc_95_46 rfl rfl ?_
        by_cases c426 : 0 ≤ a16.toInt
        · refine xi_cmt (pc' := 58) kc_95_48 rfl (xc_ge_t (X := a16.toInt) (Y := 0) rfl (by decide) (by omega)) ?_
          refine xi_iload_n (pc' := 59) (x := a12) kc_95_58 rfl rfl ?_
          refine xi_sipush (pc' := 62) (v := 600) kc_95_59 rfl rfl ?_
          by_cases c427 : 600 ≤ a12.toInt
          · refine xi_cmt (pc' := 77) kc_95_62 rfl (xc_ge_t (X := a12.toInt) (Y := 600) rfl (by decide) (by omega)) ?_
            refine xi_aload_n (pc' := 78) (x := 0) kc_95_77 rfl rfl ?_
            refine xi_bipush (pc' := 80) (v := (-6)) kc_95_78 rfl rfl ?_
            refine xi_virtual (mj := 96) (as := [.int (-6)]) (st1 := []) (lv0 := [(0, .ref 0), (1, .int (-6))]) kc_95_80 rfl rfl rfl rfl rfl A19 (Nat.le_of_ble_eq_true rfl) (hJ _ _ _ _ (by decide)) (xm_le ml_96 rfl) rfl ?_
            refine xi_ldc_w (pc' := 3) (v := 1000000000) kc_96_0 rfl rfl ?_
            refine xi_aload_n (pc' := 4) (x := 0) kc_96_3 rfl rfl ?_
            refine xi_iload_n (pc' := 5) (x := (-6)) kc_96_4 rfl rfl ?_
            refine xi_virtual (mj := 90) (as := [.int (-6)]) (st1 := [.int 1000000000]) (lv0 := [(0, .ref 0), (1, .int (-6))]) kc_96_5 rfl rfl rfl rfl rfl A19 (Nat.le_of_ble_eq_true rfl) (hJ _ _ _ _ (by decide)) (xm_le ml_90 rfl) rfl ?_
            refine xi_iload_n (pc' := 1) (x := (-6)) kc_90_0 rfl rfl ?_
            refine xi_ineg (pc' := 2) (v := 6) kc_90_1 rfl rfl ?_
            refine xi_istore_n (pc' := 3) (lv' := [(2, .int 6), (0, .ref 0), (1, .int (-6))]) kc_90_2 rfl rfl (xm_lt ml_90 rfl) ?_
            refine xi_iload_n (pc' := 4) (x := 6) kc_90_3 rfl rfl ?_
            refine xi_iff (pc' := 7) kc_90_4 rfl rfl ?_
            refine xi_iload_n (pc' := 8) (x := 6) kc_90_7 rfl rfl ?_
            refine xi_aload_n (pc' := 9) (x := 0) kc_90_8 rfl rfl ?_
            refine xi_getfield (pc' := 12) (v := .ref 94) kc_90_9 rfl rfl rfl A19 rfl ?_
            obtain ⟨y428, A428, hy428, ry428⟩ := xk_arr K.1 xD_94
            refine xi_arraylength (pc' := 13) (n := 7) (v := 7) kc_90_12 rfl (xl_lenI (by decide) (by decide) A428 hy428) rfl ?_
            refine xi_cmf (pc' := 16) kc_90_13 rfl rfl ?_
            refine xi_aload_n (pc' := 17) (x := 0) kc_90_16 rfl rfl ?_
            refine xi_getfield (pc' := 20) (v := .ref 94) kc_90_17 rfl rfl rfl A19 rfl ?_
            refine xi_iload_n (pc' := 21) (x := 6) kc_90_20 rfl rfl ?_
            refine xi_dup2 (pc' := 22) kc_90_21 rfl ⟨rfl, rfl⟩ ?_
            obtain ⟨v429, ev429, bv429, dv429⟩ := xj_get hy428 ry428 (i := 6) (by decide) (by decide)
            refine xi_iaload (pc' := 23) (v := v429) kc_90_22 rfl A428 (by decide) rfl (xi_in (by decide) (by rw [hy428]; decide)) ev429 ?_
            refine xi_iconst (pc' := 24) (v := 1) kc_90_23 rfl rfl ?_
            obtain ⟨v430, ev430⟩ : ∃ q : Int32, (v429 : Int32) + 1 = q := ⟨_, rfl⟩
            have rv430 := xc_rng v430
            refine xi_iadd (pc' := 25) (v := v430) kc_90_24 rfl ev430 ?_
            obtain ⟨y431, s431, hy431, ry431⟩ := xj_set (v := v430) hy428 ry428 6 (by first | omega | decide) (by first | omega | decide)
            refine xi_iastore (pc' := 26) (x' := y431) kc_90_25 rfl A428 rfl (xi_in (by decide) (by rw [hy428]; decide)) s431 (fun hh431 eh431 => ?_)
            have K432 := xk_pa K (xk_wa rfl) xD_94 hy431 ry431 eh431
            refine xi_iload_n (pc' := 27) (x := (-6)) kc_90_26 rfl rfl ?_
            refine xi_ireturn kc_90_27 mr_90 rfl ?_
            show xw J ov 98 96 (8, [(0, .ref 0), (1, .int (-6))], [.int (-6), .int 1000000000], hh431) _
            refine xi_isub (pc' := 9) (v := 1000000006) kc_96_8 rfl rfl ?_
            refine xi_ireturn kc_96_9 mr_96 rfl ?_
            show xw J ov 99 95 (83, [(5, .int 20), (4, .int 0), (0, .ref 0), (1, .int a12), (2, .int a14), (3, .int a16)], [.int 1000000006], hh431) _
            refine xi_ireturn kc_95_83 mr_95 rfl ?_
            show xw J ov 100 195 (312, [(4, .int x4), (3, .ref 167), (2, .ref 115), (1, .ref 0), (0, .ref 1000000)], [.int 1000000006], hh431) _
            refine xi_aload_n (pc' := 313) (x := 115) kc_195_312 rfl rfl ?_
            refine xi_aload_n (pc' := 314) (x := 1000000) kc_195_313 rfl rfl ?_
            refine xi_iload (pc' := 316) (x := x4) kc_195_314 rfl rfl ?_
            refine xi_iconst (pc' := 317) (v := 1) kc_195_316 rfl rfl ?_
            refine xi_iadd (pc' := 318) (v := v11) kc_195_317 rfl ev11 ?_
            refine xi_ialoadO (pc' := 319) (v := a12) kc_195_318 rfl (by decide) hov0 (xi_in (by omega) (by omega)) ea12 ?_
            refine xi_aload_n (pc' := 320) (x := 1000000) kc_195_319 rfl rfl ?_
            refine xi_iload (pc' := 322) (x := x4) kc_195_320 rfl rfl ?_
            refine xi_iconst (pc' := 323) (v := 2) kc_195_322 rfl rfl ?_
            refine xi_iadd (pc' := 324) (v := v13) kc_195_323 rfl ev13 ?_
            refine xi_ialoadO (pc' := 325) (v := a14) kc_195_324 rfl (by decide) hov0 (xi_in (by omega) (by omega)) ea14 ?_
            refine xi_aload_n (pc' := 326) (x := 1000000) kc_195_325 rfl rfl ?_
            refine xi_iload (pc' := 328) (x := x4) kc_195_326 rfl rfl ?_
            refine xi_iconst (pc' := 329) (v := 3) kc_195_328 rfl rfl ?_
            refine xi_iadd (pc' := 330) (v := v15) kc_195_329 rfl ev15 ?_
            refine xi_ialoadO (pc' := 331) (v := a16) kc_195_330 rfl (by decide) hov0 (xi_in (by omega) (by omega)) ea16 ?_
            obtain ⟨u433, u434, u435, u436, u437, u438, u439, u440, u441, u442, u443, u444, u445, bu433, bu434, bu435, bu436, bu437, bu438, bu439, bu440, bu441, bu442, bu443, bu444, bu445, A446⟩ := xq_115 K.1
            have A447 := ((eh431.2.1 115 (by decide)).trans A446)
            refine xi_virtual (mj := 16) (as := [.int a12, .int a14, .int a16]) (st1 := [.int 1000000006]) (lv0 := [(0, .ref 115), (1, .int a12), (2, .int a14), (3, .int a16)]) kc_195_331 rfl rfl rfl rfl rfl A447 (Nat.le_of_ble_eq_true rfl) (hJ _ _ _ _ (by decide)) (xm_le ml_16 rfl) rfl ?_
            refine xi_aload_n (pc' := 1) (x := 115) kc_16_0 rfl rfl ?_
            refine xi_iconst (pc' := 2) (v := 0) kc_16_1 rfl rfl ?_
            refine xi_putfield (pc' := 5) (fs' := [.int 0, .int u434, .ref 116, .ref 117, .ref 118, .ref 119, .ref 120, .ref 121, .ref 122, .ref 123, .ref 124, .ref 125, .ref 126, .ref 127, .ref 128, .ref 129, .int u435, .ref 130, .int u436, .ref 131, .ref 132, .ref 133, .ref 134, .int u437, .ref 135, .ref 136, .ref 137, .ref 138, .ref 139, .ref 140, .ref 141, .ref 142, .int u438, .int u439, .int u440, .ref 143, .ref 144, .ref 145, .ref 146, .ref 147, .ref 148, .int u441, .ref 149, .ref 150, .ref 151, .int u442, .ref 152, .ref 153, .ref 154, .ref 155, .ref 156, .ref 157, .ref 158, .ref 159, .int u443, .ref 160, .int u444, .ref 161, .ref 162, .ref 163, .ref 164, .int u445, .ref 165, .ref 166]) kc_16_2 rfl rfl rfl A447 rfl rfl rfl (Nat.le_of_ble_eq_true rfl) rfl (fun hh449 eh448 => ?_)
            have K450 := xk_pf (k := 0) (v := 0) K432 (xk_wf rfl) xD_115 A447 rfl (by first | omega | decide) (by first | omega | decide) eh448 rfl
            refine xi_iload_n (pc' := 6) (x := a14) kc_16_5 rfl rfl ?_
            refine xi_iconst (pc' := 7) (v := 0) kc_16_6 rfl rfl ?_
            refine xi_iconst (pc' := 8) (v := 1) kc_16_7 rfl rfl ?_
            refine xi_static (mj := 11) (as := [.int a14, .int 0, .int 1]) (st1 := []) (lv0 := [(0, .int a14), (1, .int 0), (2, .int 1)]) kc_16_8 rfl rfl (Nat.le_of_ble_eq_true rfl) rfl rfl (Nat.le_of_ble_eq_true rfl) (hJ _ _ _ _ (by decide)) (xm_le ml_11 rfl) rfl ?_
            refine xi_iload_n (pc' := 1) (x := a14) kc_11_0 rfl rfl ?_
            refine xi_iload_n (pc' := 2) (x := 0) kc_11_1 rfl rfl ?_
            refine xi_cmf (pc' := 5) kc_11_2 rfl (xc_lt_f (X := a14.toInt) (Y := 0) rfl (by decide) (by omega)) ?_
            refine xi_iload_n (pc' := 6) (x := a14) kc_11_5 rfl rfl ?_
            refine xi_iload_n (pc' := 7) (x := 1) kc_11_6 rfl rfl ?_
            refine xi_cmf (pc' := 10) kc_11_7 rfl (xc_gt_f (X := a14.toInt) (Y := 1) rfl (by decide) (by omega)) ?_
            refine xi_iconst (pc' := 11) (v := 1) kc_11_10 rfl rfl ?_
            refine xi_goto (pc' := 15) kc_11_11 rfl ?_
            refine xi_ireturn kc_11_15 mr_11 rfl ?_
            show xw J ov 99 16 (11, [(0, .ref 115), (1, .int a12), (2, .int a14), (3, .int a16)], [.int 1], hh449) _
            refine xi_ift (pc' := 21) kc_16_11 rfl rfl ?_
            refine xi_iload_n (pc' := 22) (x := a12) kc_16_21 rfl rfl ?_
            refine xi_iff (pc' := 25) kc_16_22 rfl (xc_lt_f (X := a12.toInt) (Y := 0) rfl (by decide) (by omega)) ?_
            refine xi_iload_n (pc' := 26) (x := a16) kc_16_25 rfl rfl ?_
            refine xi_iload_n (pc' := 27) (x := a14) kc_16_26 rfl rfl ?_
            refine xi_ift (pc' := 35) kc_16_27 rfl (xc_ne_t (X := a14.toInt) (Y := 0) rfl (by decide) (by omega)) ?_
            refine xi_iconst (pc' := 36) (v := 0) kc_16_35 rfl rfl ?_
            refine xi_cmt (pc' := 46) kc_16_36 rfl (xc_ge_t (X := a16.toInt) (Y := 0) rfl (by decide) (by omega)) ?_
            refine xi_iload_n (pc' := 47) (x := a12) kc_16_46 rfl rfl ?_
            refine xi_sipush (pc' := 50) (v := 599) kc_16_47 rfl rfl ?_
            refine xi_cmt (pc' := 74) kc_16_50 rfl (xc_gt_t (X := a12.toInt) (Y := 599) rfl (by decide) (by omega)) ?_
            refine xi_aload_n (pc' := 75) (x := 115) kc_16_74 rfl rfl ?_
            refine xi_bipush (pc' := 77) (v := (-6)) kc_16_75 rfl rfl ?_
            refine xi_virtual (mj := 17) (as := [.int (-6)]) (st1 := []) (lv0 := [(0, .ref 115), (1, .int (-6))]) kc_16_77 rfl rfl rfl rfl rfl eh448.1 (Nat.le_of_ble_eq_true rfl) (hJ _ _ _ _ (by decide)) (xm_le ml_17 rfl) rfl ?_
            refine xi_aload_n (pc' := 1) (x := 115) kc_17_0 rfl rfl ?_
            refine xi_getfield (pc' := 4) (v := .ref 140) kc_17_1 rfl rfl rfl eh448.1 rfl ?_
            refine xi_iload_n (pc' := 5) (x := (-6)) kc_17_4 rfl rfl ?_
            refine xi_ineg (pc' := 6) (v := 6) kc_17_5 rfl rfl ?_
            refine xi_dup2 (pc' := 7) kc_17_6 rfl ⟨rfl, rfl⟩ ?_
            obtain ⟨y451, A451, hy451, ry451⟩ := xk_arr K.1 xD_140
            obtain ⟨v452, ev452, bv452, dv452⟩ := xj_get hy451 ry451 (i := 6) (by decide) (by decide)
            have A453 := ((eh448.2.1 140 (by decide)).trans ((eh431.2.1 140 (by decide)).trans A451))
            refine xi_iaload (pc' := 8) (v := v452) kc_17_7 rfl A453 (by decide) rfl (xi_in (by decide) (by rw [hy451]; decide)) ev452 ?_
            refine xi_iconst (pc' := 9) (v := 1) kc_17_8 rfl rfl ?_
            obtain ⟨v454, ev454⟩ : ∃ q : Int32, (v452 : Int32) + 1 = q := ⟨_, rfl⟩
            have rv454 := xc_rng v454
            refine xi_iadd (pc' := 10) (v := v454) kc_17_9 rfl ev454 ?_
            obtain ⟨y455, s455, hy455, ry455⟩ := xj_set (v := v454) hy451 ry451 6 (by first | omega | decide) (by first | omega | decide)
            refine xi_iastore (pc' := 11) (x' := y455) kc_17_10 rfl A453 rfl (xi_in (by decide) (by rw [hy451]; decide)) s455 (fun hh455 eh455 => ?_)
            have K456 := xk_pa K450 (xk_wa rfl) xD_140 hy455 ry455 eh455
            refine xi_ldc (pc' := 13) (v := 1000000000) kc_17_11 rfl rfl ?_
            refine xi_iload_n (pc' := 14) (x := (-6)) kc_17_13 rfl rfl ?_
            refine xi_isub (pc' := 15) (v := 1000000006) kc_17_14 rfl rfl ?_
            refine xi_ireturn kc_17_15 mr_17 rfl ?_
            show xw J ov 99 16 (80, [(0, .ref 115), (1, .int a12), (2, .int a14), (3, .int a16)], [.int 1000000006], hh455) _
            refine xi_ireturn kc_16_80 mr_16 rfl ?_
            show xw J ov 100 195 (334, [(4, .int x4), (3, .ref 167), (2, .ref 115), (1, .ref 0), (0, .ref 1000000)], [.int 1000000006, .int 1000000006], hh455) _
            refine xi_cmt (pc' := 1501) kc_195_334 rfl rfl ?_
            obtain ⟨v457, ev457⟩ : ∃ q : Int32, x4 + 6 = q := ⟨_, rfl⟩
            have zv457 : v457.toInt = (x4.toInt + 6) := by rw [← ev457]; exact (xz_add (X := x4.toInt) (Y := 6) rfl (by decide) (by omega) (by omega)).trans (by omega)
            refine xi_iinc (pc' := 1504) (x := x4) (v := v457) (lv' := [(4, .int v457), (3, .ref 167), (2, .ref 115), (1, .ref 0), (0, .ref 1000000)]) kc_195_1501 rfl rfl ev457 rfl (xm_lt ml_195 rfl) ?_
            refine xi_goto (pc' := 23) kc_195_1504 rfl ?_
            have A458 := ((eh455.2.1 6 (by decide)).trans ((eh448.2.1 6 (by decide)).trans ((eh431.2.1 6 (by decide)).trans A1)))
            have A459 := ((eh455.2.1 123 (by decide)).trans ((eh448.2.1 123 (by decide)).trans ((eh431.2.1 123 (by decide)).trans A2)))
            have A460 := ((eh455.2.1 9 (by decide)).trans ((eh448.2.1 9 (by decide)).trans ((eh431.2.1 9 (by decide)).trans A3)))
            have A461 := ((eh455.2.1 124 (by decide)).trans ((eh448.2.1 124 (by decide)).trans ((eh431.2.1 124 (by decide)).trans A4)))
            have A462 := ((eh455.2.1 7 (by decide)).trans ((eh448.2.1 7 (by decide)).trans ((eh431.2.1 7 (by decide)).trans A5)))
            have A463 := ((eh455.2.1 10 (by decide)).trans ((eh448.2.1 10 (by decide)).trans ((eh431.2.1 10 (by decide)).trans A6)))
            have A464 := ((eh455.2.1 5 (by decide)).trans ((eh448.2.1 5 (by decide)).trans ((eh431.2.1 5 (by decide)).trans A8)))
            have A465 := ((eh455.2.1 8 (by decide)).trans ((eh448.2.1 8 (by decide)).trans ((eh431.2.1 8 (by decide)).trans A10)))
            exact kk v457 hh455 (by omega) K456 ⟨(xE_mk A458 A459 H0), (xE_mk A460 A461 H1), (xL_mk A462 A458 H2), (xL_mk A463 A460 H3), (xl_of A464 rfl), (xl_of A465 rfl)⟩
          · refine xi_cmf (pc' := 65) kc_95_62 rfl (xc_ge_f (X := a12.toInt) (Y := 600) rfl (by decide) (by omega)) ?_
            refine xi_iload_n (pc' := 66) (x := a16) kc_95_65 rfl rfl ?_
            refine xi_iload (pc' := 68) (x := 20) kc_95_66 rfl rfl ?_
            by_cases c466 : a16.toInt ≤ 20
            · refine xi_cmt (pc' := 84) kc_95_68 rfl (xc_le_t (X := a16.toInt) (Y := 20) rfl (by decide) (by omega)) ?_
              refine xi_aload_n (pc' := 85) (x := 0) kc_95_84 rfl rfl ?_
              refine xi_getfield (pc' := 88) (v := .ref 66) kc_95_85 rfl rfl rfl A19 rfl ?_
              obtain ⟨u468, wl467, bu468, A469⟩ := xq_66 K.1
              refine xi_virtual (mj := 91) (as := []) (st1 := []) (lv0 := [(0, .ref 66)]) kc_95_88 rfl rfl rfl rfl rfl A469 (Nat.le_of_ble_eq_true rfl) (hJ _ _ _ _ (by decide)) (xm_le ml_91 rfl) rfl ?_
              refine xi_aload_n (pc' := 1) (x := 66) kc_91_0 rfl rfl ?_
              refine xi_lconst (pc' := 2) (v := 0) kc_91_1 rfl rfl ?_
              refine xi_putfield (pc' := 5) (fs' := [.ref 1, .ref 67, .ref 70, .ref 71, .ref 72, .ref 73, .ref 74, .long 0, .int u468]) kc_91_2 rfl rfl rfl A469 rfl rfl rfl (Nat.le_of_ble_eq_true rfl) rfl (fun hh471 eh470 => ?_)
              have K472 := xk_pl (k := 7) (v := 0) K (xk_wf rfl) xD_66 A469 rfl eh470 rfl
              refine xi_return kc_91_5 mr_91 ?_
              show xw J ov 99 95 (91, [(5, .int 20), (4, .int 0), (0, .ref 0), (1, .int a12), (2, .int a14), (3, .int a16)], [], hh471) _
              refine xi_aload_n (pc' := 92) (x := 0) kc_95_91 rfl rfl ?_
              have A473 := ((eh470.2.1 0 (by decide)).trans A19)
              refine xi_getfield (pc' := 95) (v := .ref 1) kc_95_92 rfl rfl rfl A473 rfl ?_
              refine xi_iload_n (pc' := 96) (x := a14) kc_95_95 rfl rfl ?_
              obtain ⟨u474, u475, bu474, bu475, A476⟩ := xq_1 K.1
              have A477 := ((eh470.2.1 1 (by decide)).trans A476)
              refine xi_virtual (mj := 97) (as := [.int a14]) (st1 := []) (lv0 := [(0, .ref 1), (1, .int a14)]) kc_95_96 rfl rfl rfl rfl rfl A477 (Nat.le_of_ble_eq_true rfl) (hJ _ _ _ _ (by decide)) (xm_le ml_97 rfl) rfl ?_
              refine xi_iload_n (pc' := 1) (x := a14) kc_97_0 rfl rfl ?_
              refine xi_ift (pc' := 11) kc_97_1 rfl (xc_ne_t (X := a14.toInt) (Y := 0) rfl (by decide) (by omega)) ?_
              refine xi_aload_n (pc' := 12) (x := 1) kc_97_11 rfl rfl ?_
              refine xi_getfield (pc' := 15) (v := .ref 8) kc_97_12 rfl rfl rfl A477 rfl ?_
              refine xi_areturn kc_97_15 (by rw [mr_97]; rfl) ?_
              show xw J ov 99 95 (99, [(5, .int 20), (4, .int 0), (0, .ref 0), (1, .int a12), (2, .int a14), (3, .int a16)], [.ref 8], hh471) _
              refine xi_iload_n (pc' := 100) (x := a12) kc_95_99 rfl rfl ?_
              refine xi_iload_n (pc' := 101) (x := a16) kc_95_100 rfl rfl ?_
              have A478 := ((eh470.2.1 8 (by decide)).trans A10)
              refine xi_virtual (mj := 98) (as := [.int a12, .int a16]) (st1 := []) (lv0 := [(0, .ref 8), (1, .int a12), (2, .int a16)]) kc_95_101 rfl rfl rfl rfl rfl A478 (Nat.le_of_ble_eq_true rfl) (hJ _ _ _ _ (by decide)) (xm_le ml_98 rfl) rfl ?_
              refine xi_iload_n (pc' := 1) (x := a12) kc_98_0 rfl rfl ?_
              refine xi_iff (pc' := 4) kc_98_1 rfl (xc_lt_f (X := a12.toInt) (Y := 0) rfl (by decide) (by omega)) ?_
              refine xi_iload_n (pc' := 5) (x := a12) kc_98_4 rfl rfl ?_
              refine xi_aload_n (pc' := 6) (x := 8) kc_98_5 rfl rfl ?_
              refine xi_getfield (pc' := 9) (v := .ref 9) kc_98_6 rfl rfl rfl A478 rfl ?_
              have A479 := ((eh470.2.1 9 (by decide)).trans A3)
              refine xi_arraylength (pc' := 10) (n := 601) (v := 601) kc_98_9 rfl (xl_lenI (by decide) (by decide) A479 hy3) rfl ?_
              refine xi_cmt (pc' := 16) kc_98_10 rfl (xc_lt_t (X := a12.toInt) (Y := 601) rfl (by decide) (by omega)) ?_
              refine xi_aload_n (pc' := 17) (x := 8) kc_98_16 rfl rfl ?_
              refine xi_getfield (pc' := 20) (v := .ref 9) kc_98_17 rfl rfl rfl A478 rfl ?_
              refine xi_iload_n (pc' := 21) (x := a12) kc_98_20 rfl rfl ?_
              obtain ⟨v480, ev480, bv480, dv480⟩ := xj_get hy3 ry3 (i := a12) (by omega) (by omega)
              refine xi_iaload (pc' := 22) (v := v480) kc_98_21 rfl A479 (by decide) rfl (xi_in (by omega) (by rw [hy3]; omega)) ev480 ?_
              refine xi_istore_n (pc' := 23) (lv' := [(3, .int v480), (0, .ref 8), (1, .int a12), (2, .int a16)]) kc_98_22 rfl rfl (xm_lt ml_98 rfl) ?_
              refine xi_aload_n (pc' := 24) (x := 8) kc_98_23 rfl rfl ?_
              refine xi_getfield (pc' := 27) (v := .ref 9) kc_98_24 rfl rfl rfl A478 rfl ?_
              refine xi_iload_n (pc' := 28) (x := a12) kc_98_27 rfl rfl ?_
              refine xi_iload_n (pc' := 29) (x := a16) kc_98_28 rfl rfl ?_
              obtain ⟨y481, s481, hy481, ry481⟩ := xj_set (v := a16) hy3 ry3 a12 (by first | omega | decide) (by first | omega | decide)
              refine xi_iastore (pc' := 30) (x' := y481) kc_98_29 rfl A479 rfl (xi_in (by omega) (by rw [hy3]; omega)) s481 (fun hh481 eh481 => ?_)
              have K482 := xk_pa K472 (xk_wa rfl) xD_9 hy481 ry481 eh481
              refine xi_aload_n (pc' := 31) (x := 8) kc_98_30 rfl rfl ?_
              refine xi_iload_n (pc' := 32) (x := a12) kc_98_31 rfl rfl ?_
              refine xi_iconst (pc' := 33) (v := 1) kc_98_32 rfl rfl ?_
              obtain ⟨v483, ev483⟩ : ∃ q : Int32, a12 - 1 = q := ⟨_, rfl⟩
              have zv483 : v483.toInt = (a12.toInt + (-1)) := by rw [← ev483]; exact (xz_sub (X := a12.toInt) (Y := 1) rfl (by decide) (by omega) (by omega)).trans (by omega)
              refine xi_isub (pc' := 34) (v := v483) kc_98_33 rfl ev483 ?_
              have A484 := ((eh481.2.1 8 (by decide)).trans A478)
              refine xi_virtual (mj := 99) (as := [.int v483]) (st1 := []) (lv0 := [(0, .ref 8), (1, .int v483)]) kc_98_34 rfl rfl rfl rfl rfl A484 (Nat.le_of_ble_eq_true rfl) (hJ _ _ _ _ (by decide)) (xm_le ml_99 rfl) rfl ?_
              refine xi_iload_n (pc' := 1) (x := v483) kc_99_0 rfl rfl ?_
              by_cases c485 : (a12.toInt + (-1)) < 0
              · refine xi_ift (pc' := 13) kc_99_1 rfl (xc_lt_t (X := (a12.toInt + (-1))) (Y := 0) zv483 (by decide) (by omega)) ?_
                refine xi_aload_n (pc' := 14) (x := 8) kc_99_13 rfl rfl ?_
                refine xi_getfield (pc' := 17) (v := .int 0) kc_99_14 rfl rfl rfl A484 rfl ?_
                refine xi_goto (pc' := 26) kc_99_17 rfl ?_
                refine xi_ireturn kc_99_26 mr_99 rfl ?_
                show xw J ov 98 98 (37, [(3, .int v480), (0, .ref 8), (1, .int a12), (2, .int a16)], [.int 0], hh481) _
                refine xi_istore (pc' := 39) (lv' := [(4, .int 0), (3, .int v480), (0, .ref 8), (1, .int a12), (2, .int a16)]) kc_98_37 rfl rfl (xm_lt ml_98 rfl) ?_
                refine xi_iload_n (pc' := 40) (x := a12) kc_98_39 rfl rfl ?_
                refine xi_istore (pc' := 42) (lv' := [(5, .int a12), (4, .int 0), (3, .int v480), (0, .ref 8), (1, .int a12), (2, .int a16)]) kc_98_40 rfl rfl (xm_lt ml_98 rfl) ?_
                refine xw_lv (b := [(0, .ref 8), (3, .int v480), (4, .int 0), (5, .int a12)]) (lvS_cons (lvS_cons (lvS_cons (lvS_cons (lvS_nil (show ([5, 4, 3, 0, 1, 2] : List Nat).Nodup by decide)) rfl) rfl) rfl) rfl) ?_
                have A487 := ((eh481.2.1 10 (by decide)).trans ((eh470.2.1 10 (by decide)).trans A6))
                refine xw_tell (o := 8) (t := 9) (c := 10) (hb := hh481) (f := 0) (was := v480) (by decide) (by decide) (by decide) A484 rfl rfl eh481.1 hy481 (fun z9486 hh486 hz486 HL486 eh486 => ?_) 602 a12 0 y6 hh481 (by omega) (by omega) (by omega) hy6 (xL_la0 (by omega)) (xL_pre H3 (by omega) (by omega) s481) (xh_rf A487)
                have ry486 : ∀ i, i < 601 → (-2147483648) ≤ (z9486.getD i 0).toInt ∧ (z9486.getD i 0).toInt ≤ 2147483647 := fun i _ => ⟨(xc_rng _).1, by have := (xc_rng (z9486.getD i 0)).2; omega⟩
                have K488 := xk_pa K482 (xk_wa rfl) xD_10 hz486 ry486 eh486
                show xw J ov 99 95 (104, [(5, .int 20), (4, .int 0), (0, .ref 0), (1, .int a12), (2, .int a14), (3, .int a16)], [.int v480], hh486) _
                refine xi_ireturn kc_95_104 mr_95 rfl ?_
                show xw J ov 100 195 (312, [(4, .int x4), (3, .ref 167), (2, .ref 115), (1, .ref 0), (0, .ref 1000000)], [.int v480], hh486) _
                refine xi_aload_n (pc' := 313) (x := 115) kc_195_312 rfl rfl ?_
                refine xi_aload_n (pc' := 314) (x := 1000000) kc_195_313 rfl rfl ?_
                refine xi_iload (pc' := 316) (x := x4) kc_195_314 rfl rfl ?_
                refine xi_iconst (pc' := 317) (v := 1) kc_195_316 rfl rfl ?_
                refine xi_iadd (pc' := 318) (v := v11) kc_195_317 rfl ev11 ?_
                refine xi_ialoadO (pc' := 319) (v := a12) kc_195_318 rfl (by decide) hov0 (xi_in (by omega) (by omega)) ea12 ?_
                refine xi_aload_n (pc' := 320) (x := 1000000) kc_195_319 rfl rfl ?_
                refine xi_iload (pc' := 322) (x := x4) kc_195_320 rfl rfl ?_
                refine xi_iconst (pc' := 323) (v := 2) kc_195_322 rfl rfl ?_
                refine xi_iadd (pc' := 324) (v := v13) kc_195_323 rfl ev13 ?_
                refine xi_ialoadO (pc' := 325) (v := a14) kc_195_324 rfl (by decide) hov0 (xi_in (by omega) (by omega)) ea14 ?_
                refine xi_aload_n (pc' := 326) (x := 1000000) kc_195_325 rfl rfl ?_
                refine xi_iload (pc' := 328) (x := x4) kc_195_326 rfl rfl ?_
                refine xi_iconst (pc' := 329) (v := 3) kc_195_328 rfl rfl ?_
                refine xi_iadd (pc' := 330) (v := v15) kc_195_329 rfl ev15 ?_
                refine xi_ialoadO (pc' := 331) (v := a16) kc_195_330 rfl (by decide) hov0 (xi_in (by omega) (by omega)) ea16 ?_
                obtain ⟨u489, u490, u491, u492, u493, u494, u495, u496, u497, u498, u499, u500, u501, bu489, bu490, bu491, bu492, bu493, bu494, bu495, bu496, bu497, bu498, bu499, bu500, bu501, A502⟩ := xq_115 K.1
                have A503 := ((eh486.2.1 115 (by decide)).trans ((eh481.2.1 115 (by decide)).trans ((eh470.2.1 115 (by decide)).trans A502)))
                refine xi_virtual (mj := 16) (as := [.int a12, .int a14, .int a16]) (st1 := [.int v480]) (lv0 := [(0, .ref 115), (1, .int a12), (2, .int a14), (3, .int a16)]) kc_195_331 rfl rfl rfl rfl rfl A503 (Nat.le_of_ble_eq_true rfl) (hJ _ _ _ _ (by decide)) (xm_le ml_16 rfl) rfl ?_
                refine xi_aload_n (pc' := 1) (x := 115) kc_16_0 rfl rfl ?_
                refine xi_iconst (pc' := 2) (v := 0) kc_16_1 rfl rfl ?_
                refine xi_putfield (pc' := 5) (fs' := [.int 0, .int u490, .ref 116, .ref 117, .ref 118, .ref 119, .ref 120, .ref 121, .ref 122, .ref 123, .ref 124, .ref 125, .ref 126, .ref 127, .ref 128, .ref 129, .int u491, .ref 130, .int u492, .ref 131, .ref 132, .ref 133, .ref 134, .int u493, .ref 135, .ref 136, .ref 137, .ref 138, .ref 139, .ref 140, .ref 141, .ref 142, .int u494, .int u495, .int u496, .ref 143, .ref 144, .ref 145, .ref 146, .ref 147, .ref 148, .int u497, .ref 149, .ref 150, .ref 151, .int u498, .ref 152, .ref 153, .ref 154, .ref 155, .ref 156, .ref 157, .ref 158, .ref 159, .int u499, .ref 160, .int u500, .ref 161, .ref 162, .ref 163, .ref 164, .int u501, .ref 165, .ref 166]) kc_16_2 rfl rfl rfl A503 rfl rfl rfl (Nat.le_of_ble_eq_true rfl) rfl (fun hh505 eh504 => ?_)
                have K506 := xk_pf (k := 0) (v := 0) K488 (xk_wf rfl) xD_115 A503 rfl (by first | omega | decide) (by first | omega | decide) eh504 rfl
                refine xi_iload_n (pc' := 6) (x := a14) kc_16_5 rfl rfl ?_
                refine xi_iconst (pc' := 7) (v := 0) kc_16_6 rfl rfl ?_
                refine xi_iconst (pc' := 8) (v := 1) kc_16_7 rfl rfl ?_
                refine xi_static (mj := 11) (as := [.int a14, .int 0, .int 1]) (st1 := []) (lv0 := [(0, .int a14), (1, .int 0), (2, .int 1)]) kc_16_8 rfl rfl (Nat.le_of_ble_eq_true rfl) rfl rfl (Nat.le_of_ble_eq_true rfl) (hJ _ _ _ _ (by decide)) (xm_le ml_11 rfl) rfl ?_
                refine xi_iload_n (pc' := 1) (x := a14) kc_11_0 rfl rfl ?_
                refine xi_iload_n (pc' := 2) (x := 0) kc_11_1 rfl rfl ?_
                refine xi_cmf (pc' := 5) kc_11_2 rfl (xc_lt_f (X := a14.toInt) (Y := 0) rfl (by decide) (by omega)) ?_
                refine xi_iload_n (pc' := 6) (x := a14) kc_11_5 rfl rfl ?_
                refine xi_iload_n (pc' := 7) (x := 1) kc_11_6 rfl rfl ?_
                refine xi_cmf (pc' := 10) kc_11_7 rfl (xc_gt_f (X := a14.toInt) (Y := 1) rfl (by decide) (by omega)) ?_
                refine xi_iconst (pc' := 11) (v := 1) kc_11_10 rfl rfl ?_
                refine xi_goto (pc' := 15) kc_11_11 rfl ?_
                refine xi_ireturn kc_11_15 mr_11 rfl ?_
                show xw J ov 99 16 (11, [(0, .ref 115), (1, .int a12), (2, .int a14), (3, .int a16)], [.int 1], hh505) _
                refine xi_ift (pc' := 21) kc_16_11 rfl rfl ?_
                refine xi_iload_n (pc' := 22) (x := a12) kc_16_21 rfl rfl ?_
                refine xi_iff (pc' := 25) kc_16_22 rfl (xc_lt_f (X := a12.toInt) (Y := 0) rfl (by decide) (by omega)) ?_
                refine xi_iload_n (pc' := 26) (x := a16) kc_16_25 rfl rfl ?_
                refine xi_iload_n (pc' := 27) (x := a14) kc_16_26 rfl rfl ?_
                refine xi_ift (pc' := 35) kc_16_27 rfl (xc_ne_t (X := a14.toInt) (Y := 0) rfl (by decide) (by omega)) ?_
                refine xi_iconst (pc' := 36) (v := 0) kc_16_35 rfl rfl ?_
                refine xi_cmt (pc' := 46) kc_16_36 rfl (xc_ge_t (X := a16.toInt) (Y := 0) rfl (by decide) (by omega)) ?_
                refine xi_iload_n (pc' := 47) (x := a12) kc_16_46 rfl rfl ?_
                refine xi_sipush (pc' := 50) (v := 599) kc_16_47 rfl rfl ?_
                refine xi_cmf (pc' := 53) kc_16_50 rfl (xc_gt_f (X := a12.toInt) (Y := 599) rfl (by decide) (by omega)) ?_
                refine xi_iload_n (pc' := 54) (x := a16) kc_16_53 rfl rfl ?_
                refine xi_iload_n (pc' := 55) (x := a14) kc_16_54 rfl rfl ?_
                refine xi_ift (pc' := 63) kc_16_55 rfl (xc_ne_t (X := a14.toInt) (Y := 0) rfl (by decide) (by omega)) ?_
                refine xi_bipush (pc' := 65) (v := 20) kc_16_63 rfl rfl ?_
                refine xi_cmt (pc' := 81) kc_16_65 rfl (xc_le_t (X := a16.toInt) (Y := 20) rfl (by decide) (by omega)) ?_
                refine xi_iload_n (pc' := 82) (x := a14) kc_16_81 rfl rfl ?_
                refine xi_ift (pc' := 94) kc_16_82 rfl (xc_ne_t (X := a14.toInt) (Y := 0) rfl (by decide) (by omega)) ?_
                refine xi_aload_n (pc' := 95) (x := 115) kc_16_94 rfl rfl ?_
                refine xi_getfield (pc' := 98) (v := .ref 124) kc_16_95 rfl rfl rfl eh504.1 rfl ?_
                refine xi_iload_n (pc' := 99) (x := a12) kc_16_98 rfl rfl ?_
                have A507 := ((eh504.2.1 124 (by decide)).trans ((eh486.2.1 124 (by decide)).trans ((eh481.2.1 124 (by decide)).trans ((eh470.2.1 124 (by decide)).trans A4))))
                refine xi_iaload (pc' := 100) (v := v480) kc_16_99 rfl A507 (by decide) rfl (xi_in (by omega) (by rw [hy4]; omega)) (xE_ld H1 (by first | omega | decide) (by first | omega | decide) (by omega) ev480) ?_
                refine xi_istore (pc' := 102) (lv' := [(4, .int v480), (0, .ref 115), (1, .int a12), (2, .int a14), (3, .int a16)]) kc_16_100 rfl rfl (xm_lt ml_16 rfl) ?_
                refine xi_aload_n (pc' := 103) (x := 115) kc_16_102 rfl rfl ?_
                refine xi_getfield (pc' := 106) (v := .ref 123) kc_16_103 rfl rfl rfl eh504.1 rfl ?_
                refine xi_iload_n (pc' := 107) (x := a12) kc_16_106 rfl rfl ?_
                refine xi_iload_n (pc' := 108) (x := a14) kc_16_107 rfl rfl ?_
                refine xi_ift (pc' := 115) kc_16_108 rfl (xc_ne_t (X := a14.toInt) (Y := 0) rfl (by decide) (by omega)) ?_
                refine xi_aload_n (pc' := 116) (x := 115) kc_16_115 rfl rfl ?_
                refine xi_getfield (pc' := 119) (v := .ref 123) kc_16_116 rfl rfl rfl eh504.1 rfl ?_
                refine xi_iload_n (pc' := 120) (x := a12) kc_16_119 rfl rfl ?_
                obtain ⟨v508, ev508, bv508, dv508⟩ := xj_get hy2 ry2 (i := a12) (by omega) (by omega)
                have A509 := ((eh504.2.1 123 (by decide)).trans ((eh486.2.1 123 (by decide)).trans ((eh481.2.1 123 (by decide)).trans ((eh470.2.1 123 (by decide)).trans A2))))
                refine xi_iaload (pc' := 121) (v := v508) kc_16_120 rfl A509 (by decide) rfl (xi_in (by omega) (by rw [hy2]; omega)) ev508 ?_
                obtain ⟨y510, s510, hy510, ry510⟩ := xj_set (v := v508) hy2 ry2 a12 (by first | omega | decide) (by first | omega | decide)
                refine xi_iastore (pc' := 122) (x' := y510) kc_16_121 rfl A509 rfl (xi_in (by omega) (by rw [hy2]; omega)) s510 (fun hh510 eh510 => ?_)
                have K511 := xk_pa K506 (xk_wa rfl) xD_123 hy510 ry510 eh510
                refine xi_aload_n (pc' := 123) (x := 115) kc_16_122 rfl rfl ?_
                have A512 := ((eh510.2.1 115 (by decide)).trans eh504.1)
                refine xi_getfield (pc' := 126) (v := .ref 124) kc_16_123 rfl rfl rfl A512 rfl ?_
                refine xi_iload_n (pc' := 127) (x := a12) kc_16_126 rfl rfl ?_
                refine xi_iload_n (pc' := 128) (x := a14) kc_16_127 rfl rfl ?_
                refine xi_iconst (pc' := 129) (v := 1) kc_16_128 rfl rfl ?_
                refine xi_cmf (pc' := 132) kc_16_129 rfl (xc_ne_f (X := a14.toInt) (Y := 1) rfl (by decide) (by omega)) ?_
                refine xi_iload_n (pc' := 133) (x := a16) kc_16_132 rfl rfl ?_
                refine xi_goto (pc' := 142) kc_16_133 rfl ?_
                have A513 := ((eh510.2.1 124 (by decide)).trans A507)
                obtain ⟨y514, s514, hy514, ry514⟩ := xj_set (v := a16) hy4 ry4 a12 (by first | omega | decide) (by first | omega | decide)
                refine xi_iastore (pc' := 143) (x' := y514) kc_16_142 rfl A513 rfl (xi_in (by omega) (by rw [hy4]; omega)) s514 (fun hh514 eh514 => ?_)
                have K515 := xk_pa K511 (xk_wa rfl) xD_124 hy514 ry514 eh514
                refine xi_aload_n (pc' := 144) (x := 115) kc_16_143 rfl rfl ?_
                refine xi_iconst (pc' := 145) (v := 0) kc_16_144 rfl rfl ?_
                have A516 := ((eh514.2.1 115 (by decide)).trans A512)
                refine xi_putfield (pc' := 148) (fs' := [.int 0, .int u490, .ref 116, .ref 117, .ref 118, .ref 119, .ref 120, .ref 121, .ref 122, .ref 123, .ref 124, .ref 125, .ref 126, .ref 127, .ref 128, .ref 129, .int u491, .ref 130, .int u492, .ref 131, .ref 132, .ref 133, .ref 134, .int u493, .ref 135, .ref 136, .ref 137, .ref 138, .ref 139, .ref 140, .ref 141, .ref 142, .int u494, .int u495, .int u496, .ref 143, .ref 144, .ref 145, .ref 146, .ref 147, .ref 148, .int 0, .ref 149, .ref 150, .ref 151, .int u498, .ref 152, .ref 153, .ref 154, .ref 155, .ref 156, .ref 157, .ref 158, .ref 159, .int u499, .ref 160, .int u500, .ref 161, .ref 162, .ref 163, .ref 164, .int u501, .ref 165, .ref 166]) kc_16_145 rfl rfl rfl A516 rfl rfl rfl (Nat.le_of_ble_eq_true rfl) rfl (fun hh518 eh517 => ?_)
                have K519 := xk_pf (k := 41) (v := 0) K515 (xk_wf rfl) xD_115 A516 rfl (by first | omega | decide) (by first | omega | decide) eh517 rfl
                refine xi_iload (pc' := 150) (x := v480) kc_16_148 rfl rfl ?_
                refine xi_ireturn kc_16_150 mr_16 rfl ?_
                show xw J ov 100 195 (334, [(4, .int x4), (3, .ref 167), (2, .ref 115), (1, .ref 0), (0, .ref 1000000)], [.int v480, .int v480], hh518) _
                refine xi_cmt (pc' := 1501) kc_195_334 rfl (xc_eq_t (X := v480.toInt) (Y := v480.toInt) rfl rfl (by omega)) ?_
                obtain ⟨v520, ev520⟩ : ∃ q : Int32, x4 + 6 = q := ⟨_, rfl⟩
                have zv520 : v520.toInt = (x4.toInt + 6) := by rw [← ev520]; exact (xz_add (X := x4.toInt) (Y := 6) rfl (by decide) (by omega) (by omega)).trans (by omega)
                refine xi_iinc (pc' := 1504) (x := x4) (v := v520) (lv' := [(4, .int v520), (3, .ref 167), (2, .ref 115), (1, .ref 0), (0, .ref 1000000)]) kc_195_1501 rfl rfl ev520 rfl (xm_lt ml_195 rfl) ?_
                refine xi_goto (pc' := 23) kc_195_1504 rfl ?_
                have A521 := ((eh517.2.1 6 (by decide)).trans ((eh514.2.1 6 (by decide)).trans ((eh510.2.1 6 (by decide)).trans ((eh504.2.1 6 (by decide)).trans ((eh486.2.1 6 (by decide)).trans ((eh481.2.1 6 (by decide)).trans ((eh470.2.1 6 (by decide)).trans A1)))))))
                have A522 := ((eh517.2.1 123 (by decide)).trans ((eh514.2.1 123 (by decide)).trans eh510.1))
                have A523 := ((eh517.2.1 9 (by decide)).trans ((eh514.2.1 9 (by decide)).trans ((eh510.2.1 9 (by decide)).trans ((eh504.2.1 9 (by decide)).trans ((eh486.2.1 9 (by decide)).trans eh481.1)))))
                have A524 := ((eh517.2.1 124 (by decide)).trans eh514.1)
                have A525 := ((eh517.2.1 7 (by decide)).trans ((eh514.2.1 7 (by decide)).trans ((eh510.2.1 7 (by decide)).trans ((eh504.2.1 7 (by decide)).trans ((eh486.2.1 7 (by decide)).trans ((eh481.2.1 7 (by decide)).trans ((eh470.2.1 7 (by decide)).trans A5)))))))
                have A526 := ((eh517.2.1 10 (by decide)).trans ((eh514.2.1 10 (by decide)).trans ((eh510.2.1 10 (by decide)).trans ((eh504.2.1 10 (by decide)).trans eh486.1))))
                have A527 := ((eh517.2.1 5 (by decide)).trans ((eh514.2.1 5 (by decide)).trans ((eh510.2.1 5 (by decide)).trans ((eh504.2.1 5 (by decide)).trans ((eh486.2.1 5 (by decide)).trans ((eh481.2.1 5 (by decide)).trans ((eh470.2.1 5 (by decide)).trans A8)))))))
                have A528 := ((eh517.2.1 8 (by decide)).trans ((eh514.2.1 8 (by decide)).trans ((eh510.2.1 8 (by decide)).trans ((eh504.2.1 8 (by decide)).trans ((eh486.2.1 8 (by decide)).trans A484)))))
                exact kk v520 hh518 (by omega) K519 ⟨(xE_mk A521 A522 (xE_id H0 ev508 s510)), (xE_mk A523 A524 (xE_set H1 (by first | omega | decide) (by omega) (by omega) (by omega) s481 s514)), (xL_mk A525 A521 H2), (xL_mk A526 A523 HL486), (xl_of A527 rfl), (xl_of A528 rfl)⟩
              · refine xi_iff (pc' := 4) kc_99_1 rfl (xc_lt_f (X := (a12.toInt + (-1))) (Y := 0) zv483 (by decide) (by omega)) ?_
                refine xi_iload_n (pc' := 5) (x := v483) kc_99_4 rfl rfl ?_
                refine xi_aload_n (pc' := 6) (x := 8) kc_99_5 rfl rfl ?_
                refine xi_getfield (pc' := 9) (v := .ref 10) kc_99_6 rfl rfl rfl A484 rfl ?_
                have A529 := ((eh481.2.1 10 (by decide)).trans ((eh470.2.1 10 (by decide)).trans A6))
                refine xi_arraylength (pc' := 10) (n := 601) (v := 601) kc_99_9 rfl (xl_lenI (by decide) (by decide) A529 hy6) rfl ?_
                refine xi_cmt (pc' := 20) kc_99_10 rfl (xc_lt_t (X := (a12.toInt + (-1))) (Y := 601) zv483 (by decide) (by omega)) ?_
                refine xi_aload_n (pc' := 21) (x := 8) kc_99_20 rfl rfl ?_
                refine xi_getfield (pc' := 24) (v := .ref 10) kc_99_21 rfl rfl rfl A484 rfl ?_
                refine xi_iload_n (pc' := 25) (x := v483) kc_99_24 rfl rfl ?_
                obtain ⟨v530, ev530, bv530, dv530⟩ := xj_get hy6 ry6 (i := v483) (by rw [zv483]; omega) (by rw [zv483]; omega)
                refine xi_iaload (pc' := 26) (v := v530) kc_99_25 rfl A529 (by decide) rfl (xi_in (by rw [zv483]; omega) (by rw [hy6]; rw [zv483]; omega)) ev530 ?_
                refine xi_ireturn kc_99_26 mr_99 rfl ?_
                show xw J ov 98 98 (37, [(3, .int v480), (0, .ref 8), (1, .int a12), (2, .int a16)], [.int v530], hh481) _
                refine xi_istore (pc' := 39) (lv' := [(4, .int v530), (3, .int v480), (0, .ref 8), (1, .int a12), (2, .int a16)]) kc_98_37 rfl rfl (xm_lt ml_98 rfl) ?_
                refine xi_iload_n (pc' := 40) (x := a12) kc_98_39 rfl rfl ?_
                refine xi_istore (pc' := 42) (lv' := [(5, .int a12), (4, .int v530), (3, .int v480), (0, .ref 8), (1, .int a12), (2, .int a16)]) kc_98_40 rfl rfl (xm_lt ml_98 rfl) ?_
                refine xw_lv (b := [(0, .ref 8), (3, .int v480), (4, .int v530), (5, .int a12)]) (lvS_cons (lvS_cons (lvS_cons (lvS_cons (lvS_nil (show ([5, 4, 3, 0, 1, 2] : List Nat).Nodup by decide)) rfl) rfl) rfl) rfl) ?_
                refine xw_tell (o := 8) (t := 9) (c := 10) (hb := hh481) (f := 0) (was := v480) (by decide) (by decide) (by decide) A484 rfl rfl eh481.1 hy481 (fun z9531 hh531 hz531 HL531 eh531 => ?_) 602 a12 v530 y6 hh481 (by omega) (by omega) (by omega) hy6 (xL_la (w := v483) H3 (by omega) (by omega) (by omega) (by omega) s481 ev530) (xL_pre H3 (by omega) (by omega) s481) (xh_rf A529)
                have ry531 : ∀ i, i < 601 → (-2147483648) ≤ (z9531.getD i 0).toInt ∧ (z9531.getD i 0).toInt ≤ 2147483647 := fun i _ => ⟨(xc_rng _).1, by have := (xc_rng (z9531.getD i 0)).2; omega⟩
                have K532 := xk_pa K482 (xk_wa rfl) xD_10 hz531 ry531 eh531
                show xw J ov 99 95 (104, [(5, .int 20), (4, .int 0), (0, .ref 0), (1, .int a12), (2, .int a14), (3, .int a16)], [.int v480], hh531) _
                refine xi_ireturn kc_95_104 mr_95 rfl ?_
                show xw J ov 100 195 (312, [(4, .int x4), (3, .ref 167), (2, .ref 115), (1, .ref 0), (0, .ref 1000000)], [.int v480], hh531) _
                refine xi_aload_n (pc' := 313) (x := 115) kc_195_312 rfl rfl ?_
                refine xi_aload_n (pc' := 314) (x := 1000000) kc_195_313 rfl rfl ?_
                refine xi_iload (pc' := 316) (x := x4) kc_195_314 rfl rfl ?_
                refine xi_iconst (pc' := 317) (v := 1) kc_195_316 rfl rfl ?_
                refine xi_iadd (pc' := 318) (v := v11) kc_195_317 rfl ev11 ?_
                refine xi_ialoadO (pc' := 319) (v := a12) kc_195_318 rfl (by decide) hov0 (xi_in (by omega) (by omega)) ea12 ?_
                refine xi_aload_n (pc' := 320) (x := 1000000) kc_195_319 rfl rfl ?_
                refine xi_iload (pc' := 322) (x := x4) kc_195_320 rfl rfl ?_
                refine xi_iconst (pc' := 323) (v := 2) kc_195_322 rfl rfl ?_
                refine xi_iadd (pc' := 324) (v := v13) kc_195_323 rfl ev13 ?_
                refine xi_ialoadO (pc' := 325) (v := a14) kc_195_324 rfl (by decide) hov0 (xi_in (by omega) (by omega)) ea14 ?_
                refine xi_aload_n (pc' := 326) (x := 1000000) kc_195_325 rfl rfl ?_
                refine xi_iload (pc' := 328) (x := x4) kc_195_326 rfl rfl ?_
                refine xi_iconst (pc' := 329) (v := 3) kc_195_328 rfl rfl ?_
                refine xi_iadd (pc' := 330) (v := v15) kc_195_329 rfl ev15 ?_
                refine xi_ialoadO (pc' := 331) (v := a16) kc_195_330 rfl (by decide) hov0 (xi_in (by omega) (by omega)) ea16 ?_
                obtain ⟨u533, u534, u535, u536, u537, u538, u539, u540, u541, u542, u543, u544, u545, bu533, bu534, bu535, bu536, bu537, bu538, bu539, bu540, bu541, bu542, bu543, bu544, bu545, A546⟩ := xq_115 K.1
                have A547 := ((eh531.2.1 115 (by decide)).trans ((eh481.2.1 115 (by decide)).trans ((eh470.2.1 115 (by decide)).trans A546)))
                refine xi_virtual (mj := 16) (as := [.int a12, .int a14, .int a16]) (st1 := [.int v480]) (lv0 := [(0, .ref 115), (1, .int a12), (2, .int a14), (3, .int a16)]) kc_195_331 rfl rfl rfl rfl rfl A547 (Nat.le_of_ble_eq_true rfl) (hJ _ _ _ _ (by decide)) (xm_le ml_16 rfl) rfl ?_
                refine xi_aload_n (pc' := 1) (x := 115) kc_16_0 rfl rfl ?_
                refine xi_iconst (pc' := 2) (v := 0) kc_16_1 rfl rfl ?_
                refine xi_putfield (pc' := 5) (fs' := [.int 0, .int u534, .ref 116, .ref 117, .ref 118, .ref 119, .ref 120, .ref 121, .ref 122, .ref 123, .ref 124, .ref 125, .ref 126, .ref 127, .ref 128, .ref 129, .int u535, .ref 130, .int u536, .ref 131, .ref 132, .ref 133, .ref 134, .int u537, .ref 135, .ref 136, .ref 137, .ref 138, .ref 139, .ref 140, .ref 141, .ref 142, .int u538, .int u539, .int u540, .ref 143, .ref 144, .ref 145, .ref 146, .ref 147, .ref 148, .int u541, .ref 149, .ref 150, .ref 151, .int u542, .ref 152, .ref 153, .ref 154, .ref 155, .ref 156, .ref 157, .ref 158, .ref 159, .int u543, .ref 160, .int u544, .ref 161, .ref 162, .ref 163, .ref 164, .int u545, .ref 165, .ref 166]) kc_16_2 rfl rfl rfl A547 rfl rfl rfl (Nat.le_of_ble_eq_true rfl) rfl (fun hh549 eh548 => ?_)
                have K550 := xk_pf (k := 0) (v := 0) K532 (xk_wf rfl) xD_115 A547 rfl (by first | omega | decide) (by first | omega | decide) eh548 rfl
                refine xi_iload_n (pc' := 6) (x := a14) kc_16_5 rfl rfl ?_
                refine xi_iconst (pc' := 7) (v := 0) kc_16_6 rfl rfl ?_
                refine xi_iconst (pc' := 8) (v := 1) kc_16_7 rfl rfl ?_
                refine xi_static (mj := 11) (as := [.int a14, .int 0, .int 1]) (st1 := []) (lv0 := [(0, .int a14), (1, .int 0), (2, .int 1)]) kc_16_8 rfl rfl (Nat.le_of_ble_eq_true rfl) rfl rfl (Nat.le_of_ble_eq_true rfl) (hJ _ _ _ _ (by decide)) (xm_le ml_11 rfl) rfl ?_
                refine xi_iload_n (pc' := 1) (x := a14) kc_11_0 rfl rfl ?_
                refine xi_iload_n (pc' := 2) (x := 0) kc_11_1 rfl rfl ?_
                refine xi_cmf (pc' := 5) kc_11_2 rfl (xc_lt_f (X := a14.toInt) (Y := 0) rfl (by decide) (by omega)) ?_
                refine xi_iload_n (pc' := 6) (x := a14) kc_11_5 rfl rfl ?_
                refine xi_iload_n (pc' := 7) (x := 1) kc_11_6 rfl rfl ?_
                refine xi_cmf (pc' := 10) kc_11_7 rfl (xc_gt_f (X := a14.toInt) (Y := 1) rfl (by decide) (by omega)) ?_
                refine xi_iconst (pc' := 11) (v := 1) kc_11_10 rfl rfl ?_
                refine xi_goto (pc' := 15) kc_11_11 rfl ?_
                refine xi_ireturn kc_11_15 mr_11 rfl ?_
                show xw J ov 99 16 (11, [(0, .ref 115), (1, .int a12), (2, .int a14), (3, .int a16)], [.int 1], hh549) _
                refine xi_ift (pc' := 21) kc_16_11 rfl rfl ?_
                refine xi_iload_n (pc' := 22) (x := a12) kc_16_21 rfl rfl ?_
                refine xi_iff (pc' := 25) kc_16_22 rfl (xc_lt_f (X := a12.toInt) (Y := 0) rfl (by decide) (by omega)) ?_
                refine xi_iload_n (pc' := 26) (x := a16) kc_16_25 rfl rfl ?_
                refine xi_iload_n (pc' := 27) (x := a14) kc_16_26 rfl rfl ?_
                refine xi_ift (pc' := 35) kc_16_27 rfl (xc_ne_t (X := a14.toInt) (Y := 0) rfl (by decide) (by omega)) ?_
                refine xi_iconst (pc' := 36) (v := 0) kc_16_35 rfl rfl ?_
                refine xi_cmt (pc' := 46) kc_16_36 rfl (xc_ge_t (X := a16.toInt) (Y := 0) rfl (by decide) (by omega)) ?_
                refine xi_iload_n (pc' := 47) (x := a12) kc_16_46 rfl rfl ?_
                refine xi_sipush (pc' := 50) (v := 599) kc_16_47 rfl rfl ?_
                refine xi_cmf (pc' := 53) kc_16_50 rfl (xc_gt_f (X := a12.toInt) (Y := 599) rfl (by decide) (by omega)) ?_
                refine xi_iload_n (pc' := 54) (x := a16) kc_16_53 rfl rfl ?_
                refine xi_iload_n (pc' := 55) (x := a14) kc_16_54 rfl rfl ?_
                refine xi_ift (pc' := 63) kc_16_55 rfl (xc_ne_t (X := a14.toInt) (Y := 0) rfl (by decide) (by omega)) ?_
                refine xi_bipush (pc' := 65) (v := 20) kc_16_63 rfl rfl ?_
                refine xi_cmt (pc' := 81) kc_16_65 rfl (xc_le_t (X := a16.toInt) (Y := 20) rfl (by decide) (by omega)) ?_
                refine xi_iload_n (pc' := 82) (x := a14) kc_16_81 rfl rfl ?_
                refine xi_ift (pc' := 94) kc_16_82 rfl (xc_ne_t (X := a14.toInt) (Y := 0) rfl (by decide) (by omega)) ?_
                refine xi_aload_n (pc' := 95) (x := 115) kc_16_94 rfl rfl ?_
                refine xi_getfield (pc' := 98) (v := .ref 124) kc_16_95 rfl rfl rfl eh548.1 rfl ?_
                refine xi_iload_n (pc' := 99) (x := a12) kc_16_98 rfl rfl ?_
                have A551 := ((eh548.2.1 124 (by decide)).trans ((eh531.2.1 124 (by decide)).trans ((eh481.2.1 124 (by decide)).trans ((eh470.2.1 124 (by decide)).trans A4))))
                refine xi_iaload (pc' := 100) (v := v480) kc_16_99 rfl A551 (by decide) rfl (xi_in (by omega) (by rw [hy4]; omega)) (xE_ld H1 (by first | omega | decide) (by first | omega | decide) (by omega) ev480) ?_
                refine xi_istore (pc' := 102) (lv' := [(4, .int v480), (0, .ref 115), (1, .int a12), (2, .int a14), (3, .int a16)]) kc_16_100 rfl rfl (xm_lt ml_16 rfl) ?_
                refine xi_aload_n (pc' := 103) (x := 115) kc_16_102 rfl rfl ?_
                refine xi_getfield (pc' := 106) (v := .ref 123) kc_16_103 rfl rfl rfl eh548.1 rfl ?_
                refine xi_iload_n (pc' := 107) (x := a12) kc_16_106 rfl rfl ?_
                refine xi_iload_n (pc' := 108) (x := a14) kc_16_107 rfl rfl ?_
                refine xi_ift (pc' := 115) kc_16_108 rfl (xc_ne_t (X := a14.toInt) (Y := 0) rfl (by decide) (by omega)) ?_
                refine xi_aload_n (pc' := 116) (x := 115) kc_16_115 rfl rfl ?_
                refine xi_getfield (pc' := 119) (v := .ref 123) kc_16_116 rfl rfl rfl eh548.1 rfl ?_
                refine xi_iload_n (pc' := 120) (x := a12) kc_16_119 rfl rfl ?_
                obtain ⟨v552, ev552, bv552, dv552⟩ := xj_get hy2 ry2 (i := a12) (by omega) (by omega)
                have A553 := ((eh548.2.1 123 (by decide)).trans ((eh531.2.1 123 (by decide)).trans ((eh481.2.1 123 (by decide)).trans ((eh470.2.1 123 (by decide)).trans A2))))
                refine xi_iaload (pc' := 121) (v := v552) kc_16_120 rfl A553 (by decide) rfl (xi_in (by omega) (by rw [hy2]; omega)) ev552 ?_
                obtain ⟨y554, s554, hy554, ry554⟩ := xj_set (v := v552) hy2 ry2 a12 (by first | omega | decide) (by first | omega | decide)
                refine xi_iastore (pc' := 122) (x' := y554) kc_16_121 rfl A553 rfl (xi_in (by omega) (by rw [hy2]; omega)) s554 (fun hh554 eh554 => ?_)
                have K555 := xk_pa K550 (xk_wa rfl) xD_123 hy554 ry554 eh554
                refine xi_aload_n (pc' := 123) (x := 115) kc_16_122 rfl rfl ?_
                have A556 := ((eh554.2.1 115 (by decide)).trans eh548.1)
                refine xi_getfield (pc' := 126) (v := .ref 124) kc_16_123 rfl rfl rfl A556 rfl ?_
                refine xi_iload_n (pc' := 127) (x := a12) kc_16_126 rfl rfl ?_
                refine xi_iload_n (pc' := 128) (x := a14) kc_16_127 rfl rfl ?_
                refine xi_iconst (pc' := 129) (v := 1) kc_16_128 rfl rfl ?_
                refine xi_cmf (pc' := 132) kc_16_129 rfl (xc_ne_f (X := a14.toInt) (Y := 1) rfl (by decide) (by omega)) ?_
                refine xi_iload_n (pc' := 133) (x := a16) kc_16_132 rfl rfl ?_
                refine xi_goto (pc' := 142) kc_16_133 rfl ?_
                have A557 := ((eh554.2.1 124 (by decide)).trans A551)
                obtain ⟨y558, s558, hy558, ry558⟩ := xj_set (v := a16) hy4 ry4 a12 (by first | omega | decide) (by first | omega | decide)
                refine xi_iastore (pc' := 143) (x' := y558) kc_16_142 rfl A557 rfl (xi_in (by omega) (by rw [hy4]; omega)) s558 (fun hh558 eh558 => ?_)
                have K559 := xk_pa K555 (xk_wa rfl) xD_124 hy558 ry558 eh558
                refine xi_aload_n (pc' := 144) (x := 115) kc_16_143 rfl rfl ?_
                refine xi_iconst (pc' := 145) (v := 0) kc_16_144 rfl rfl ?_
                have A560 := ((eh558.2.1 115 (by decide)).trans A556)
                refine xi_putfield (pc' := 148) (fs' := [.int 0, .int u534, .ref 116, .ref 117, .ref 118, .ref 119, .ref 120, .ref 121, .ref 122, .ref 123, .ref 124, .ref 125, .ref 126, .ref 127, .ref 128, .ref 129, .int u535, .ref 130, .int u536, .ref 131, .ref 132, .ref 133, .ref 134, .int u537, .ref 135, .ref 136, .ref 137, .ref 138, .ref 139, .ref 140, .ref 141, .ref 142, .int u538, .int u539, .int u540, .ref 143, .ref 144, .ref 145, .ref 146, .ref 147, .ref 148, .int 0, .ref 149, .ref 150, .ref 151, .int u542, .ref 152, .ref 153, .ref 154, .ref 155, .ref 156, .ref 157, .ref 158, .ref 159, .int u543, .ref 160, .int u544, .ref 161, .ref 162, .ref 163, .ref 164, .int u545, .ref 165, .ref 166]) kc_16_145 rfl rfl rfl A560 rfl rfl rfl (Nat.le_of_ble_eq_true rfl) rfl (fun hh562 eh561 => ?_)
                have K563 := xk_pf (k := 41) (v := 0) K559 (xk_wf rfl) xD_115 A560 rfl (by first | omega | decide) (by first | omega | decide) eh561 rfl
                refine xi_iload (pc' := 150) (x := v480) kc_16_148 rfl rfl ?_
                refine xi_ireturn kc_16_150 mr_16 rfl ?_
                show xw J ov 100 195 (334, [(4, .int x4), (3, .ref 167), (2, .ref 115), (1, .ref 0), (0, .ref 1000000)], [.int v480, .int v480], hh562) _
                refine xi_cmt (pc' := 1501) kc_195_334 rfl (xc_eq_t (X := v480.toInt) (Y := v480.toInt) rfl rfl (by omega)) ?_
                obtain ⟨v564, ev564⟩ : ∃ q : Int32, x4 + 6 = q := ⟨_, rfl⟩
                have zv564 : v564.toInt = (x4.toInt + 6) := by rw [← ev564]; exact (xz_add (X := x4.toInt) (Y := 6) rfl (by decide) (by omega) (by omega)).trans (by omega)
                refine xi_iinc (pc' := 1504) (x := x4) (v := v564) (lv' := [(4, .int v564), (3, .ref 167), (2, .ref 115), (1, .ref 0), (0, .ref 1000000)]) kc_195_1501 rfl rfl ev564 rfl (xm_lt ml_195 rfl) ?_
                refine xi_goto (pc' := 23) kc_195_1504 rfl ?_
                have A565 := ((eh561.2.1 6 (by decide)).trans ((eh558.2.1 6 (by decide)).trans ((eh554.2.1 6 (by decide)).trans ((eh548.2.1 6 (by decide)).trans ((eh531.2.1 6 (by decide)).trans ((eh481.2.1 6 (by decide)).trans ((eh470.2.1 6 (by decide)).trans A1)))))))
                have A566 := ((eh561.2.1 123 (by decide)).trans ((eh558.2.1 123 (by decide)).trans eh554.1))
                have A567 := ((eh561.2.1 9 (by decide)).trans ((eh558.2.1 9 (by decide)).trans ((eh554.2.1 9 (by decide)).trans ((eh548.2.1 9 (by decide)).trans ((eh531.2.1 9 (by decide)).trans eh481.1)))))
                have A568 := ((eh561.2.1 124 (by decide)).trans eh558.1)
                have A569 := ((eh561.2.1 7 (by decide)).trans ((eh558.2.1 7 (by decide)).trans ((eh554.2.1 7 (by decide)).trans ((eh548.2.1 7 (by decide)).trans ((eh531.2.1 7 (by decide)).trans ((eh481.2.1 7 (by decide)).trans ((eh470.2.1 7 (by decide)).trans A5)))))))
                have A570 := ((eh561.2.1 10 (by decide)).trans ((eh558.2.1 10 (by decide)).trans ((eh554.2.1 10 (by decide)).trans ((eh548.2.1 10 (by decide)).trans eh531.1))))
                have A571 := ((eh561.2.1 5 (by decide)).trans ((eh558.2.1 5 (by decide)).trans ((eh554.2.1 5 (by decide)).trans ((eh548.2.1 5 (by decide)).trans ((eh531.2.1 5 (by decide)).trans ((eh481.2.1 5 (by decide)).trans ((eh470.2.1 5 (by decide)).trans A8)))))))
                have A572 := ((eh561.2.1 8 (by decide)).trans ((eh558.2.1 8 (by decide)).trans ((eh554.2.1 8 (by decide)).trans ((eh548.2.1 8 (by decide)).trans ((eh531.2.1 8 (by decide)).trans A484)))))
                exact kk v564 hh562 (by omega) K563 ⟨(xE_mk A565 A566 (xE_id H0 ev552 s554)), (xE_mk A567 A568 (xE_set H1 (by first | omega | decide) (by omega) (by omega) (by omega) s481 s558)), (xL_mk A569 A565 H2), (xL_mk A570 A567 HL531), (xl_of A571 rfl), (xl_of A572 rfl)⟩
            · refine xi_cmf (pc' := 71) kc_95_68 rfl (xc_le_f (X := a16.toInt) (Y := 20) rfl (by decide) (by omega)) ?_
              refine xi_iload_n (pc' := 72) (x := a16) kc_95_71 rfl rfl ?_
              refine xi_bipush (pc' := 74) (v := 99) kc_95_72 rfl rfl ?_
              by_cases c573 : a16.toInt = 99
              · refine xi_cmt (pc' := 84) kc_95_74 rfl (xc_eq_t (X := a16.toInt) (Y := 99) rfl (by decide) (by omega)) ?_
                refine xi_aload_n (pc' := 85) (x := 0) kc_95_84 rfl rfl ?_
                refine xi_getfield (pc' := 88) (v := .ref 66) kc_95_85 rfl rfl rfl A19 rfl ?_
                obtain ⟨u575, wl574, bu575, A576⟩ := xq_66 K.1
                refine xi_virtual (mj := 91) (as := []) (st1 := []) (lv0 := [(0, .ref 66)]) kc_95_88 rfl rfl rfl rfl rfl A576 (Nat.le_of_ble_eq_true rfl) (hJ _ _ _ _ (by decide)) (xm_le ml_91 rfl) rfl ?_
                refine xi_aload_n (pc' := 1) (x := 66) kc_91_0 rfl rfl ?_
                refine xi_lconst (pc' := 2) (v := 0) kc_91_1 rfl rfl ?_
                refine xi_putfield (pc' := 5) (fs' := [.ref 1, .ref 67, .ref 70, .ref 71, .ref 72, .ref 73, .ref 74, .long 0, .int u575]) kc_91_2 rfl rfl rfl A576 rfl rfl rfl (Nat.le_of_ble_eq_true rfl) rfl (fun hh578 eh577 => ?_)
                have K579 := xk_pl (k := 7) (v := 0) K (xk_wf rfl) xD_66 A576 rfl eh577 rfl
                refine xi_return kc_91_5 mr_91 ?_
                show xw J ov 99 95 (91, [(5, .int 20), (4, .int 0), (0, .ref 0), (1, .int a12), (2, .int a14), (3, .int a16)], [], hh578) _
                refine xi_aload_n (pc' := 92) (x := 0) kc_95_91 rfl rfl ?_
                have A580 := ((eh577.2.1 0 (by decide)).trans A19)
                refine xi_getfield (pc' := 95) (v := .ref 1) kc_95_92 rfl rfl rfl A580 rfl ?_
                refine xi_iload_n (pc' := 96) (x := a14) kc_95_95 rfl rfl ?_
                obtain ⟨u581, u582, bu581, bu582, A583⟩ := xq_1 K.1
                have A584 := ((eh577.2.1 1 (by decide)).trans A583)
                refine xi_virtual (mj := 97) (as := [.int a14]) (st1 := []) (lv0 := [(0, .ref 1), (1, .int a14)]) kc_95_96 rfl rfl rfl rfl rfl A584 (Nat.le_of_ble_eq_true rfl) (hJ _ _ _ _ (by decide)) (xm_le ml_97 rfl) rfl ?_
                refine xi_iload_n (pc' := 1) (x := a14) kc_97_0 rfl rfl ?_
                refine xi_ift (pc' := 11) kc_97_1 rfl (xc_ne_t (X := a14.toInt) (Y := 0) rfl (by decide) (by omega)) ?_
                refine xi_aload_n (pc' := 12) (x := 1) kc_97_11 rfl rfl ?_
                refine xi_getfield (pc' := 15) (v := .ref 8) kc_97_12 rfl rfl rfl A584 rfl ?_
                refine xi_areturn kc_97_15 (by rw [mr_97]; rfl) ?_
                show xw J ov 99 95 (99, [(5, .int 20), (4, .int 0), (0, .ref 0), (1, .int a12), (2, .int a14), (3, .int a16)], [.ref 8], hh578) _
                refine xi_iload_n (pc' := 100) (x := a12) kc_95_99 rfl rfl ?_
                refine xi_iload_n (pc' := 101) (x := a16) kc_95_100 rfl rfl ?_
                have A585 := ((eh577.2.1 8 (by decide)).trans A10)
                refine xi_virtual (mj := 98) (as := [.int a12, .int a16]) (st1 := []) (lv0 := [(0, .ref 8), (1, .int a12), (2, .int a16)]) kc_95_101 rfl rfl rfl rfl rfl A585 (Nat.le_of_ble_eq_true rfl) (hJ _ _ _ _ (by decide)) (xm_le ml_98 rfl) rfl ?_
                refine xi_iload_n (pc' := 1) (x := a12) kc_98_0 rfl rfl ?_
                refine xi_iff (pc' := 4) kc_98_1 rfl (xc_lt_f (X := a12.toInt) (Y := 0) rfl (by decide) (by omega)) ?_
                refine xi_iload_n (pc' := 5) (x := a12) kc_98_4 rfl rfl ?_
                refine xi_aload_n (pc' := 6) (x := 8) kc_98_5 rfl rfl ?_
                refine xi_getfield (pc' := 9) (v := .ref 9) kc_98_6 rfl rfl rfl A585 rfl ?_
                have A586 := ((eh577.2.1 9 (by decide)).trans A3)
                refine xi_arraylength (pc' := 10) (n := 601) (v := 601) kc_98_9 rfl (xl_lenI (by decide) (by decide) A586 hy3) rfl ?_
                refine xi_cmt (pc' := 16) kc_98_10 rfl (xc_lt_t (X := a12.toInt) (Y := 601) rfl (by decide) (by omega)) ?_
                refine xi_aload_n (pc' := 17) (x := 8) kc_98_16 rfl rfl ?_
                refine xi_getfield (pc' := 20) (v := .ref 9) kc_98_17 rfl rfl rfl A585 rfl ?_
                refine xi_iload_n (pc' := 21) (x := a12) kc_98_20 rfl rfl ?_
                obtain ⟨v587, ev587, bv587, dv587⟩ := xj_get hy3 ry3 (i := a12) (by omega) (by omega)
                refine xi_iaload (pc' := 22) (v := v587) kc_98_21 rfl A586 (by decide) rfl (xi_in (by omega) (by rw [hy3]; omega)) ev587 ?_
                refine xi_istore_n (pc' := 23) (lv' := [(3, .int v587), (0, .ref 8), (1, .int a12), (2, .int a16)]) kc_98_22 rfl rfl (xm_lt ml_98 rfl) ?_
                refine xi_aload_n (pc' := 24) (x := 8) kc_98_23 rfl rfl ?_
                refine xi_getfield (pc' := 27) (v := .ref 9) kc_98_24 rfl rfl rfl A585 rfl ?_
                refine xi_iload_n (pc' := 28) (x := a12) kc_98_27 rfl rfl ?_
                refine xi_iload_n (pc' := 29) (x := a16) kc_98_28 rfl rfl ?_
                obtain ⟨y588, s588, hy588, ry588⟩ := xj_set (v := a16) hy3 ry3 a12 (by first | omega | decide) (by first | omega | decide)
                refine xi_iastore (pc' := 30) (x' := y588) kc_98_29 rfl A586 rfl (xi_in (by omega) (by rw [hy3]; omega)) s588 (fun hh588 eh588 => ?_)
                have K589 := xk_pa K579 (xk_wa rfl) xD_9 hy588 ry588 eh588
                refine xi_aload_n (pc' := 31) (x := 8) kc_98_30 rfl rfl ?_
                refine xi_iload_n (pc' := 32) (x := a12) kc_98_31 rfl rfl ?_
                refine xi_iconst (pc' := 33) (v := 1) kc_98_32 rfl rfl ?_
                obtain ⟨v590, ev590⟩ : ∃ q : Int32, a12 - 1 = q := ⟨_, rfl⟩
                have zv590 : v590.toInt = (a12.toInt + (-1)) := by rw [← ev590]; exact (xz_sub (X := a12.toInt) (Y := 1) rfl (by decide) (by omega) (by omega)).trans (by omega)
                refine xi_isub (pc' := 34) (v := v590) kc_98_33 rfl ev590 ?_
                have A591 := ((eh588.2.1 8 (by decide)).trans A585)
                refine xi_virtual (mj := 99) (as := [.int v590]) (st1 := []) (lv0 := [(0, .ref 8), (1, .int v590)]) kc_98_34 rfl rfl rfl rfl rfl A591 (Nat.le_of_ble_eq_true rfl) (hJ _ _ _ _ (by decide)) (xm_le ml_99 rfl) rfl ?_
                refine xi_iload_n (pc' := 1) (x := v590) kc_99_0 rfl rfl ?_
                by_cases c592 : (a12.toInt + (-1)) < 0
                · refine xi_ift (pc' := 13) kc_99_1 rfl (xc_lt_t (X := (a12.toInt + (-1))) (Y := 0) zv590 (by decide) (by omega)) ?_
                  refine xi_aload_n (pc' := 14) (x := 8) kc_99_13 rfl rfl ?_
                  refine xi_getfield (pc' := 17) (v := .int 0) kc_99_14 rfl rfl rfl A591 rfl ?_
                  refine xi_goto (pc' := 26) kc_99_17 rfl ?_
                  refine xi_ireturn kc_99_26 mr_99 rfl ?_
                  show xw J ov 98 98 (37, [(3, .int v587), (0, .ref 8), (1, .int a12), (2, .int a16)], [.int 0], hh588) _
                  refine xi_istore (pc' := 39) (lv' := [(4, .int 0), (3, .int v587), (0, .ref 8), (1, .int a12), (2, .int a16)]) kc_98_37 rfl rfl (xm_lt ml_98 rfl) ?_
                  refine xi_iload_n (pc' := 40) (x := a12) kc_98_39 rfl rfl ?_
                  refine xi_istore (pc' := 42) (lv' := [(5, .int a12), (4, .int 0), (3, .int v587), (0, .ref 8), (1, .int a12), (2, .int a16)]) kc_98_40 rfl rfl (xm_lt ml_98 rfl) ?_
                  refine xw_lv (b := [(0, .ref 8), (3, .int v587), (4, .int 0), (5, .int a12)]) (lvS_cons (lvS_cons (lvS_cons (lvS_cons (lvS_nil (show ([5, 4, 3, 0, 1, 2] : List Nat).Nodup by decide)) rfl) rfl) rfl) rfl) ?_
                  have A594 := ((eh588.2.1 10 (by decide)).trans ((eh577.2.1 10 (by decide)).trans A6))
                  refine xw_tell (o := 8) (t := 9) (c := 10) (hb := hh588) (f := 0) (was := v587) (by decide) (by decide) (by decide) A591 rfl rfl eh588.1 hy588 (fun z9593 hh593 hz593 HL593 eh593 => ?_) 602 a12 0 y6 hh588 (by omega) (by omega) (by omega) hy6 (xL_la0 (by omega)) (xL_pre H3 (by omega) (by omega) s588) (xh_rf A594)
                  have ry593 : ∀ i, i < 601 → (-2147483648) ≤ (z9593.getD i 0).toInt ∧ (z9593.getD i 0).toInt ≤ 2147483647 := fun i _ => ⟨(xc_rng _).1, by have := (xc_rng (z9593.getD i 0)).2; omega⟩
                  have K595 := xk_pa K589 (xk_wa rfl) xD_10 hz593 ry593 eh593
                  show xw J ov 99 95 (104, [(5, .int 20), (4, .int 0), (0, .ref 0), (1, .int a12), (2, .int a14), (3, .int a16)], [.int v587], hh593) _
                  refine xi_ireturn kc_95_104 mr_95 rfl ?_
                  show xw J ov 100 195 (312, [(4, .int x4), (3, .ref 167), (2, .ref 115), (1, .ref 0), (0, .ref 1000000)], [.int v587], hh593) _
                  refine xi_aload_n (pc' := 313) (x := 115) kc_195_312 rfl rfl ?_
                  refine xi_aload_n (pc' := 314) (x := 1000000) kc_195_313 rfl rfl ?_
                  refine xi_iload (pc' := 316) (x := x4) kc_195_314 rfl rfl ?_
                  refine xi_iconst (pc' := 317) (v := 1) kc_195_316 rfl rfl ?_
                  refine xi_iadd (pc' := 318) (v := v11) kc_195_317 rfl ev11 ?_
                  refine xi_ialoadO (pc' := 319) (v := a12) kc_195_318 rfl (by decide) hov0 (xi_in (by omega) (by omega)) ea12 ?_
                  refine xi_aload_n (pc' := 320) (x := 1000000) kc_195_319 rfl rfl ?_
                  refine xi_iload (pc' := 322) (x := x4) kc_195_320 rfl rfl ?_
                  refine xi_iconst (pc' := 323) (v := 2) kc_195_322 rfl rfl ?_
                  refine xi_iadd (pc' := 324) (v := v13) kc_195_323 rfl ev13 ?_
                  refine xi_ialoadO (pc' := 325) (v := a14) kc_195_324 rfl (by decide) hov0 (xi_in (by omega) (by omega)) ea14 ?_
                  refine xi_aload_n (pc' := 326) (x := 1000000) kc_195_325 rfl rfl ?_
                  refine xi_iload (pc' := 328) (x := x4) kc_195_326 rfl rfl ?_
                  refine xi_iconst (pc' := 329) (v := 3) kc_195_328 rfl rfl ?_
                  refine xi_iadd (pc' := 330) (v := v15) kc_195_329 rfl ev15 ?_
                  refine xi_ialoadO (pc' := 331) (v := a16) kc_195_330 rfl (by decide) hov0 (xi_in (by omega) (by omega)) ea16 ?_
                  obtain ⟨u596, u597, u598, u599, u600, u601, u602, u603, u604, u605, u606, u607, u608, bu596, bu597, bu598, bu599, bu600, bu601, bu602, bu603, bu604, bu605, bu606, bu607, bu608, A609⟩ := xq_115 K.1
                  have A610 := ((eh593.2.1 115 (by decide)).trans ((eh588.2.1 115 (by decide)).trans ((eh577.2.1 115 (by decide)).trans A609)))
                  refine xi_virtual (mj := 16) (as := [.int a12, .int a14, .int a16]) (st1 := [.int v587]) (lv0 := [(0, .ref 115), (1, .int a12), (2, .int a14), (3, .int a16)]) kc_195_331 rfl rfl rfl rfl rfl A610 (Nat.le_of_ble_eq_true rfl) (hJ _ _ _ _ (by decide)) (xm_le ml_16 rfl) rfl ?_
                  refine xi_aload_n (pc' := 1) (x := 115) kc_16_0 rfl rfl ?_
                  refine xi_iconst (pc' := 2) (v := 0) kc_16_1 rfl rfl ?_
                  refine xi_putfield (pc' := 5) (fs' := [.int 0, .int u597, .ref 116, .ref 117, .ref 118, .ref 119, .ref 120, .ref 121, .ref 122, .ref 123, .ref 124, .ref 125, .ref 126, .ref 127, .ref 128, .ref 129, .int u598, .ref 130, .int u599, .ref 131, .ref 132, .ref 133, .ref 134, .int u600, .ref 135, .ref 136, .ref 137, .ref 138, .ref 139, .ref 140, .ref 141, .ref 142, .int u601, .int u602, .int u603, .ref 143, .ref 144, .ref 145, .ref 146, .ref 147, .ref 148, .int u604, .ref 149, .ref 150, .ref 151, .int u605, .ref 152, .ref 153, .ref 154, .ref 155, .ref 156, .ref 157, .ref 158, .ref 159, .int u606, .ref 160, .int u607, .ref 161, .ref 162, .ref 163, .ref 164, .int u608, .ref 165, .ref 166]) kc_16_2 rfl rfl rfl A610 rfl rfl rfl (Nat.le_of_ble_eq_true rfl) rfl (fun hh612 eh611 => ?_)
                  have K613 := xk_pf (k := 0) (v := 0) K595 (xk_wf rfl) xD_115 A610 rfl (by first | omega | decide) (by first | omega | decide) eh611 rfl
                  refine xi_iload_n (pc' := 6) (x := a14) kc_16_5 rfl rfl ?_
                  refine xi_iconst (pc' := 7) (v := 0) kc_16_6 rfl rfl ?_
                  refine xi_iconst (pc' := 8) (v := 1) kc_16_7 rfl rfl ?_
                  refine xi_static (mj := 11) (as := [.int a14, .int 0, .int 1]) (st1 := []) (lv0 := [(0, .int a14), (1, .int 0), (2, .int 1)]) kc_16_8 rfl rfl (Nat.le_of_ble_eq_true rfl) rfl rfl (Nat.le_of_ble_eq_true rfl) (hJ _ _ _ _ (by decide)) (xm_le ml_11 rfl) rfl ?_
                  refine xi_iload_n (pc' := 1) (x := a14) kc_11_0 rfl rfl ?_
                  refine xi_iload_n (pc' := 2) (x := 0) kc_11_1 rfl rfl ?_
                  refine xi_cmf (pc' := 5) kc_11_2 rfl (xc_lt_f (X := a14.toInt) (Y := 0) rfl (by decide) (by omega)) ?_
                  refine xi_iload_n (pc' := 6) (x := a14) kc_11_5 rfl rfl ?_
                  refine xi_iload_n (pc' := 7) (x := 1) kc_11_6 rfl rfl ?_
                  refine xi_cmf (pc' := 10) kc_11_7 rfl (xc_gt_f (X := a14.toInt) (Y := 1) rfl (by decide) (by omega)) ?_
                  refine xi_iconst (pc' := 11) (v := 1) kc_11_10 rfl rfl ?_
                  refine xi_goto (pc' := 15) kc_11_11 rfl ?_
                  refine xi_ireturn kc_11_15 mr_11 rfl ?_
                  show xw J ov 99 16 (11, [(0, .ref 115), (1, .int a12), (2, .int a14), (3, .int a16)], [.int 1], hh612) _
                  refine xi_ift (pc' := 21) kc_16_11 rfl rfl ?_
                  refine xi_iload_n (pc' := 22) (x := a12) kc_16_21 rfl rfl ?_
                  refine xi_iff (pc' := 25) kc_16_22 rfl (xc_lt_f (X := a12.toInt) (Y := 0) rfl (by decide) (by omega)) ?_
                  refine xi_iload_n (pc' := 26) (x := a16) kc_16_25 rfl rfl ?_
                  refine xi_iload_n (pc' := 27) (x := a14) kc_16_26 rfl rfl ?_
                  refine xi_ift (pc' := 35) kc_16_27 rfl (xc_ne_t (X := a14.toInt) (Y := 0) rfl (by decide) (by omega)) ?_
                  refine xi_iconst (pc' := 36) (v := 0) kc_16_35 rfl rfl ?_
                  refine xi_cmt (pc' := 46) kc_16_36 rfl (xc_ge_t (X := a16.toInt) (Y := 0) rfl (by decide) (by omega)) ?_
                  refine xi_iload_n (pc' := 47) (x := a12) kc_16_46 rfl rfl ?_
                  refine xi_sipush (pc' := 50) (v := 599) kc_16_47 rfl rfl ?_
                  refine xi_cmf (pc' := 53) kc_16_50 rfl (xc_gt_f (X := a12.toInt) (Y := 599) rfl (by decide) (by omega)) ?_
                  refine xi_iload_n (pc' := 54) (x := a16) kc_16_53 rfl rfl ?_
                  refine xi_iload_n (pc' := 55) (x := a14) kc_16_54 rfl rfl ?_
                  refine xi_ift (pc' := 63) kc_16_55 rfl (xc_ne_t (X := a14.toInt) (Y := 0) rfl (by decide) (by omega)) ?_
                  refine xi_bipush (pc' := 65) (v := 20) kc_16_63 rfl rfl ?_
                  refine xi_cmf (pc' := 68) kc_16_65 rfl (xc_le_f (X := a16.toInt) (Y := 20) rfl (by decide) (by omega)) ?_
                  refine xi_iload_n (pc' := 69) (x := a16) kc_16_68 rfl rfl ?_
                  refine xi_bipush (pc' := 71) (v := 99) kc_16_69 rfl rfl ?_
                  refine xi_cmt (pc' := 81) kc_16_71 rfl (xc_eq_t (X := a16.toInt) (Y := 99) rfl (by decide) (by omega)) ?_
                  refine xi_iload_n (pc' := 82) (x := a14) kc_16_81 rfl rfl ?_
                  refine xi_ift (pc' := 94) kc_16_82 rfl (xc_ne_t (X := a14.toInt) (Y := 0) rfl (by decide) (by omega)) ?_
                  refine xi_aload_n (pc' := 95) (x := 115) kc_16_94 rfl rfl ?_
                  refine xi_getfield (pc' := 98) (v := .ref 124) kc_16_95 rfl rfl rfl eh611.1 rfl ?_
                  refine xi_iload_n (pc' := 99) (x := a12) kc_16_98 rfl rfl ?_
                  have A614 := ((eh611.2.1 124 (by decide)).trans ((eh593.2.1 124 (by decide)).trans ((eh588.2.1 124 (by decide)).trans ((eh577.2.1 124 (by decide)).trans A4))))
                  refine xi_iaload (pc' := 100) (v := v587) kc_16_99 rfl A614 (by decide) rfl (xi_in (by omega) (by rw [hy4]; omega)) (xE_ld H1 (by first | omega | decide) (by first | omega | decide) (by omega) ev587) ?_
                  refine xi_istore (pc' := 102) (lv' := [(4, .int v587), (0, .ref 115), (1, .int a12), (2, .int a14), (3, .int a16)]) kc_16_100 rfl rfl (xm_lt ml_16 rfl) ?_
                  refine xi_aload_n (pc' := 103) (x := 115) kc_16_102 rfl rfl ?_
                  refine xi_getfield (pc' := 106) (v := .ref 123) kc_16_103 rfl rfl rfl eh611.1 rfl ?_
                  refine xi_iload_n (pc' := 107) (x := a12) kc_16_106 rfl rfl ?_
                  refine xi_iload_n (pc' := 108) (x := a14) kc_16_107 rfl rfl ?_
                  refine xi_ift (pc' := 115) kc_16_108 rfl (xc_ne_t (X := a14.toInt) (Y := 0) rfl (by decide) (by omega)) ?_
                  refine xi_aload_n (pc' := 116) (x := 115) kc_16_115 rfl rfl ?_
                  refine xi_getfield (pc' := 119) (v := .ref 123) kc_16_116 rfl rfl rfl eh611.1 rfl ?_
                  refine xi_iload_n (pc' := 120) (x := a12) kc_16_119 rfl rfl ?_
                  obtain ⟨v615, ev615, bv615, dv615⟩ := xj_get hy2 ry2 (i := a12) (by omega) (by omega)
                  have A616 := ((eh611.2.1 123 (by decide)).trans ((eh593.2.1 123 (by decide)).trans ((eh588.2.1 123 (by decide)).trans ((eh577.2.1 123 (by decide)).trans A2))))
                  refine xi_iaload (pc' := 121) (v := v615) kc_16_120 rfl A616 (by decide) rfl (xi_in (by omega) (by rw [hy2]; omega)) ev615 ?_
                  obtain ⟨y617, s617, hy617, ry617⟩ := xj_set (v := v615) hy2 ry2 a12 (by first | omega | decide) (by first | omega | decide)
                  refine xi_iastore (pc' := 122) (x' := y617) kc_16_121 rfl A616 rfl (xi_in (by omega) (by rw [hy2]; omega)) s617 (fun hh617 eh617 => ?_)
                  have K618 := xk_pa K613 (xk_wa rfl) xD_123 hy617 ry617 eh617
                  refine xi_aload_n (pc' := 123) (x := 115) kc_16_122 rfl rfl ?_
                  have A619 := ((eh617.2.1 115 (by decide)).trans eh611.1)
                  refine xi_getfield (pc' := 126) (v := .ref 124) kc_16_123 rfl rfl rfl A619 rfl ?_
                  refine xi_iload_n (pc' := 127) (x := a12) kc_16_126 rfl rfl ?_
                  refine xi_iload_n (pc' := 128) (x := a14) kc_16_127 rfl rfl ?_
                  refine xi_iconst (pc' := 129) (v := 1) kc_16_128 rfl rfl ?_
                  refine xi_cmf (pc' := 132) kc_16_129 rfl (xc_ne_f (X := a14.toInt) (Y := 1) rfl (by decide) (by omega)) ?_
                  refine xi_iload_n (pc' := 133) (x := a16) kc_16_132 rfl rfl ?_
                  refine xi_goto (pc' := 142) kc_16_133 rfl ?_
                  have A620 := ((eh617.2.1 124 (by decide)).trans A614)
                  obtain ⟨y621, s621, hy621, ry621⟩ := xj_set (v := a16) hy4 ry4 a12 (by first | omega | decide) (by first | omega | decide)
                  refine xi_iastore (pc' := 143) (x' := y621) kc_16_142 rfl A620 rfl (xi_in (by omega) (by rw [hy4]; omega)) s621 (fun hh621 eh621 => ?_)
                  have K622 := xk_pa K618 (xk_wa rfl) xD_124 hy621 ry621 eh621
                  refine xi_aload_n (pc' := 144) (x := 115) kc_16_143 rfl rfl ?_
                  refine xi_iconst (pc' := 145) (v := 0) kc_16_144 rfl rfl ?_
                  have A623 := ((eh621.2.1 115 (by decide)).trans A619)
                  refine xi_putfield (pc' := 148) (fs' := [.int 0, .int u597, .ref 116, .ref 117, .ref 118, .ref 119, .ref 120, .ref 121, .ref 122, .ref 123, .ref 124, .ref 125, .ref 126, .ref 127, .ref 128, .ref 129, .int u598, .ref 130, .int u599, .ref 131, .ref 132, .ref 133, .ref 134, .int u600, .ref 135, .ref 136, .ref 137, .ref 138, .ref 139, .ref 140, .ref 141, .ref 142, .int u601, .int u602, .int u603, .ref 143, .ref 144, .ref 145, .ref 146, .ref 147, .ref 148, .int 0, .ref 149, .ref 150, .ref 151, .int u605, .ref 152, .ref 153, .ref 154, .ref 155, .ref 156, .ref 157, .ref 158, .ref 159, .int u606, .ref 160, .int u607, .ref 161, .ref 162, .ref 163, .ref 164, .int u608, .ref 165, .ref 166]) kc_16_145 rfl rfl rfl A623 rfl rfl rfl (Nat.le_of_ble_eq_true rfl) rfl (fun hh625 eh624 => ?_)
                  have K626 := xk_pf (k := 41) (v := 0) K622 (xk_wf rfl) xD_115 A623 rfl (by first | omega | decide) (by first | omega | decide) eh624 rfl
                  refine xi_iload (pc' := 150) (x := v587) kc_16_148 rfl rfl ?_
                  refine xi_ireturn kc_16_150 mr_16 rfl ?_
                  show xw J ov 100 195 (334, [(4, .int x4), (3, .ref 167), (2, .ref 115), (1, .ref 0), (0, .ref 1000000)], [.int v587, .int v587], hh625) _
                  refine xi_cmt (pc' := 1501) kc_195_334 rfl (xc_eq_t (X := v587.toInt) (Y := v587.toInt) rfl rfl (by omega)) ?_
                  obtain ⟨v627, ev627⟩ : ∃ q : Int32, x4 + 6 = q := ⟨_, rfl⟩
                  have zv627 : v627.toInt = (x4.toInt + 6) := by rw [← ev627]; exact (xz_add (X := x4.toInt) (Y := 6) rfl (by decide) (by omega) (by omega)).trans (by omega)
                  refine xi_iinc (pc' := 1504) (x := x4) (v := v627) (lv' := [(4, .int v627), (3, .ref 167), (2, .ref 115), (1, .ref 0), (0, .ref 1000000)]) kc_195_1501 rfl rfl ev627 rfl (xm_lt ml_195 rfl) ?_
                  refine xi_goto (pc' := 23) kc_195_1504 rfl ?_
                  have A628 := ((eh624.2.1 6 (by decide)).trans ((eh621.2.1 6 (by decide)).trans ((eh617.2.1 6 (by decide)).trans ((eh611.2.1 6 (by decide)).trans ((eh593.2.1 6 (by decide)).trans ((eh588.2.1 6 (by decide)).trans ((eh577.2.1 6 (by decide)).trans A1)))))))
                  have A629 := ((eh624.2.1 123 (by decide)).trans ((eh621.2.1 123 (by decide)).trans eh617.1))
                  have A630 := ((eh624.2.1 9 (by decide)).trans ((eh621.2.1 9 (by decide)).trans ((eh617.2.1 9 (by decide)).trans ((eh611.2.1 9 (by decide)).trans ((eh593.2.1 9 (by decide)).trans eh588.1)))))
                  have A631 := ((eh624.2.1 124 (by decide)).trans eh621.1)
                  have A632 := ((eh624.2.1 7 (by decide)).trans ((eh621.2.1 7 (by decide)).trans ((eh617.2.1 7 (by decide)).trans ((eh611.2.1 7 (by decide)).trans ((eh593.2.1 7 (by decide)).trans ((eh588.2.1 7 (by decide)).trans ((eh577.2.1 7 (by decide)).trans A5)))))))
                  have A633 := ((eh624.2.1 10 (by decide)).trans ((eh621.2.1 10 (by decide)).trans ((eh617.2.1 10 (by decide)).trans ((eh611.2.1 10 (by decide)).trans eh593.1))))
                  have A634 := ((eh624.2.1 5 (by decide)).trans ((eh621.2.1 5 (by decide)).trans ((eh617.2.1 5 (by decide)).trans ((eh611.2.1 5 (by decide)).trans ((eh593.2.1 5 (by decide)).trans ((eh588.2.1 5 (by decide)).trans ((eh577.2.1 5 (by decide)).trans A8)))))))
                  have A635 := ((eh624.2.1 8 (by decide)).trans ((eh621.2.1 8 (by decide)).trans ((eh617.2.1 8 (by decide)).trans ((eh611.2.1 8 (by decide)).trans ((eh593.2.1 8 (by decide)).trans A591)))))
                  exact kk v627 hh625 (by omega) K626 ⟨(xE_mk A628 A629 (xE_id H0 ev615 s617)), (xE_mk A630 A631 (xE_set H1 (by first | omega | decide) (by omega) (by omega) (by omega) s588 s621)), (xL_mk A632 A628 H2), (xL_mk A633 A630 HL593), (xl_of A634 rfl), (xl_of A635 rfl)⟩
                · refine xi_iff (pc' := 4) kc_99_1 rfl (xc_lt_f (X := (a12.toInt + (-1))) (Y := 0) zv590 (by decide) (by omega)) ?_
                  refine xi_iload_n (pc' := 5) (x := v590) kc_99_4 rfl rfl ?_
                  refine xi_aload_n (pc' := 6) (x := 8) kc_99_5 rfl rfl ?_
                  refine xi_getfield (pc' := 9) (v := .ref 10) kc_99_6 rfl rfl rfl A591 rfl ?_
                  have A636 := ((eh588.2.1 10 (by decide)).trans ((eh577.2.1 10 (by decide)).trans A6))
                  refine xi_arraylength (pc' := 10) (n := 601) (v := 601) kc_99_9 rfl (xl_lenI (by decide) (by decide) A636 hy6) rfl ?_
                  refine xi_cmt (pc' := 20) kc_99_10 rfl (xc_lt_t (X := (a12.toInt + (-1))) (Y := 601) zv590 (by decide) (by omega)) ?_
                  refine xi_aload_n (pc' := 21) (x := 8) kc_99_20 rfl rfl ?_
                  refine xi_getfield (pc' := 24) (v := .ref 10) kc_99_21 rfl rfl rfl A591 rfl ?_
                  refine xi_iload_n (pc' := 25) (x := v590) kc_99_24 rfl rfl ?_
                  obtain ⟨v637, ev637, bv637, dv637⟩ := xj_get hy6 ry6 (i := v590) (by rw [zv590]; omega) (by rw [zv590]; omega)
                  refine xi_iaload (pc' := 26) (v := v637) kc_99_25 rfl A636 (by decide) rfl (xi_in (by rw [zv590]; omega) (by rw [hy6]; rw [zv590]; omega)) ev637 ?_
                  refine xi_ireturn kc_99_26 mr_99 rfl ?_
                  show xw J ov 98 98 (37, [(3, .int v587), (0, .ref 8), (1, .int a12), (2, .int a16)], [.int v637], hh588) _
                  refine xi_istore (pc' := 39) (lv' := [(4, .int v637), (3, .int v587), (0, .ref 8), (1, .int a12), (2, .int a16)]) kc_98_37 rfl rfl (xm_lt ml_98 rfl) ?_
                  refine xi_iload_n (pc' := 40) (x := a12) kc_98_39 rfl rfl ?_
                  refine xi_istore (pc' := 42) (lv' := [(5, .int a12), (4, .int v637), (3, .int v587), (0, .ref 8), (1, .int a12), (2, .int a16)]) kc_98_40 rfl rfl (xm_lt ml_98 rfl) ?_
                  refine xw_lv (b := [(0, .ref 8), (3, .int v587), (4, .int v637), (5, .int a12)]) (lvS_cons (lvS_cons (lvS_cons (lvS_cons (lvS_nil (show ([5, 4, 3, 0, 1, 2] : List Nat).Nodup by decide)) rfl) rfl) rfl) rfl) ?_
                  refine xw_tell (o := 8) (t := 9) (c := 10) (hb := hh588) (f := 0) (was := v587) (by decide) (by decide) (by decide) A591 rfl rfl eh588.1 hy588 (fun z9638 hh638 hz638 HL638 eh638 => ?_) 602 a12 v637 y6 hh588 (by omega) (by omega) (by omega) hy6 (xL_la (w := v590) H3 (by omega) (by omega) (by omega) (by omega) s588 ev637) (xL_pre H3 (by omega) (by omega) s588) (xh_rf A636)
                  have ry638 : ∀ i, i < 601 → (-2147483648) ≤ (z9638.getD i 0).toInt ∧ (z9638.getD i 0).toInt ≤ 2147483647 := fun i _ => ⟨(xc_rng _).1, by have := (xc_rng (z9638.getD i 0)).2; omega⟩
                  have K639 := xk_pa K589 (xk_wa rfl) xD_10 hz638 ry638 eh638
                  show xw J ov 99 95 (104, [(5, .int 20), (4, .int 0), (0, .ref 0), (1, .int a12), (2, .int a14), (3, .int a16)], [.int v587], hh638) _
                  refine xi_ireturn kc_95_104 mr_95 rfl ?_
                  show xw J ov 100 195 (312, [(4, .int x4), (3, .ref 167), (2, .ref 115), (1, .ref 0), (0, .ref 1000000)], [.int v587], hh638) _
                  refine xi_aload_n (pc' := 313) (x := 115) kc_195_312 rfl rfl ?_
                  refine xi_aload_n (pc' := 314) (x := 1000000) kc_195_313 rfl rfl ?_
                  refine xi_iload (pc' := 316) (x := x4) kc_195_314 rfl rfl ?_
                  refine xi_iconst (pc' := 317) (v := 1) kc_195_316 rfl rfl ?_
                  refine xi_iadd (pc' := 318) (v := v11) kc_195_317 rfl ev11 ?_
                  refine xi_ialoadO (pc' := 319) (v := a12) kc_195_318 rfl (by decide) hov0 (xi_in (by omega) (by omega)) ea12 ?_
                  refine xi_aload_n (pc' := 320) (x := 1000000) kc_195_319 rfl rfl ?_
                  refine xi_iload (pc' := 322) (x := x4) kc_195_320 rfl rfl ?_
                  refine xi_iconst (pc' := 323) (v := 2) kc_195_322 rfl rfl ?_
                  refine xi_iadd (pc' := 324) (v := v13) kc_195_323 rfl ev13 ?_
                  refine xi_ialoadO (pc' := 325) (v := a14) kc_195_324 rfl (by decide) hov0 (xi_in (by omega) (by omega)) ea14 ?_
                  refine xi_aload_n (pc' := 326) (x := 1000000) kc_195_325 rfl rfl ?_
                  refine xi_iload (pc' := 328) (x := x4) kc_195_326 rfl rfl ?_
                  refine xi_iconst (pc' := 329) (v := 3) kc_195_328 rfl rfl ?_
                  refine xi_iadd (pc' := 330) (v := v15) kc_195_329 rfl ev15 ?_
                  refine xi_ialoadO (pc' := 331) (v := a16) kc_195_330 rfl (by decide) hov0 (xi_in (by omega) (by omega)) ea16 ?_
                  obtain ⟨u640, u641, u642, u643, u644, u645, u646, u647, u648, u649, u650, u651, u652, bu640, bu641, bu642, bu643, bu644, bu645, bu646, bu647, bu648, bu649, bu650, bu651, bu652, A653⟩ := xq_115 K.1
                  have A654 := ((eh638.2.1 115 (by decide)).trans ((eh588.2.1 115 (by decide)).trans ((eh577.2.1 115 (by decide)).trans A653)))
                  refine xi_virtual (mj := 16) (as := [.int a12, .int a14, .int a16]) (st1 := [.int v587]) (lv0 := [(0, .ref 115), (1, .int a12), (2, .int a14), (3, .int a16)]) kc_195_331 rfl rfl rfl rfl rfl A654 (Nat.le_of_ble_eq_true rfl) (hJ _ _ _ _ (by decide)) (xm_le ml_16 rfl) rfl ?_
                  refine xi_aload_n (pc' := 1) (x := 115) kc_16_0 rfl rfl ?_
                  refine xi_iconst (pc' := 2) (v := 0) kc_16_1 rfl rfl ?_
                  refine xi_putfield (pc' := 5) (fs' := [.int 0, .int u641, .ref 116, .ref 117, .ref 118, .ref 119, .ref 120, .ref 121, .ref 122, .ref 123, .ref 124, .ref 125, .ref 126, .ref 127, .ref 128, .ref 129, .int u642, .ref 130, .int u643, .ref 131, .ref 132, .ref 133, .ref 134, .int u644, .ref 135, .ref 136, .ref 137, .ref 138, .ref 139, .ref 140, .ref 141, .ref 142, .int u645, .int u646, .int u647, .ref 143, .ref 144, .ref 145, .ref 146, .ref 147, .ref 148, .int u648, .ref 149, .ref 150, .ref 151, .int u649, .ref 152, .ref 153, .ref 154, .ref 155, .ref 156, .ref 157, .ref 158, .ref 159, .int u650, .ref 160, .int u651, .ref 161, .ref 162, .ref 163, .ref 164, .int u652, .ref 165, .ref 166]) kc_16_2 rfl rfl rfl A654 rfl rfl rfl (Nat.le_of_ble_eq_true rfl) rfl (fun hh656 eh655 => ?_)
                  have K657 := xk_pf (k := 0) (v := 0) K639 (xk_wf rfl) xD_115 A654 rfl (by first | omega | decide) (by first | omega | decide) eh655 rfl
                  refine xi_iload_n (pc' := 6) (x := a14) kc_16_5 rfl rfl ?_
                  refine xi_iconst (pc' := 7) (v := 0) kc_16_6 rfl rfl ?_
                  refine xi_iconst (pc' := 8) (v := 1) kc_16_7 rfl rfl ?_
                  refine xi_static (mj := 11) (as := [.int a14, .int 0, .int 1]) (st1 := []) (lv0 := [(0, .int a14), (1, .int 0), (2, .int 1)]) kc_16_8 rfl rfl (Nat.le_of_ble_eq_true rfl) rfl rfl (Nat.le_of_ble_eq_true rfl) (hJ _ _ _ _ (by decide)) (xm_le ml_11 rfl) rfl ?_
                  refine xi_iload_n (pc' := 1) (x := a14) kc_11_0 rfl rfl ?_
                  refine xi_iload_n (pc' := 2) (x := 0) kc_11_1 rfl rfl ?_
                  refine xi_cmf (pc' := 5) kc_11_2 rfl (xc_lt_f (X := a14.toInt) (Y := 0) rfl (by decide) (by omega)) ?_
                  refine xi_iload_n (pc' := 6) (x := a14) kc_11_5 rfl rfl ?_
                  refine xi_iload_n (pc' := 7) (x := 1) kc_11_6 rfl rfl ?_
                  refine xi_cmf (pc' := 10) kc_11_7 rfl (xc_gt_f (X := a14.toInt) (Y := 1) rfl (by decide) (by omega)) ?_
                  refine xi_iconst (pc' := 11) (v := 1) kc_11_10 rfl rfl ?_
                  refine xi_goto (pc' := 15) kc_11_11 rfl ?_
                  refine xi_ireturn kc_11_15 mr_11 rfl ?_
                  show xw J ov 99 16 (11, [(0, .ref 115), (1, .int a12), (2, .int a14), (3, .int a16)], [.int 1], hh656) _
                  refine xi_ift (pc' := 21) kc_16_11 rfl rfl ?_
                  refine xi_iload_n (pc' := 22) (x := a12) kc_16_21 rfl rfl ?_
                  refine xi_iff (pc' := 25) kc_16_22 rfl (xc_lt_f (X := a12.toInt) (Y := 0) rfl (by decide) (by omega)) ?_
                  refine xi_iload_n (pc' := 26) (x := a16) kc_16_25 rfl rfl ?_
                  refine xi_iload_n (pc' := 27) (x := a14) kc_16_26 rfl rfl ?_
                  refine xi_ift (pc' := 35) kc_16_27 rfl (xc_ne_t (X := a14.toInt) (Y := 0) rfl (by decide) (by omega)) ?_
                  refine xi_iconst (pc' := 36) (v := 0) kc_16_35 rfl rfl ?_
                  refine xi_cmt (pc' := 46) kc_16_36 rfl (xc_ge_t (X := a16.toInt) (Y := 0) rfl (by decide) (by omega)) ?_
                  refine xi_iload_n (pc' := 47) (x := a12) kc_16_46 rfl rfl ?_
                  refine xi_sipush (pc' := 50) (v := 599) kc_16_47 rfl rfl ?_
                  refine xi_cmf (pc' := 53) kc_16_50 rfl (xc_gt_f (X := a12.toInt) (Y := 599) rfl (by decide) (by omega)) ?_
                  refine xi_iload_n (pc' := 54) (x := a16) kc_16_53 rfl rfl ?_
                  refine xi_iload_n (pc' := 55) (x := a14) kc_16_54 rfl rfl ?_
                  refine xi_ift (pc' := 63) kc_16_55 rfl (xc_ne_t (X := a14.toInt) (Y := 0) rfl (by decide) (by omega)) ?_
                  refine xi_bipush (pc' := 65) (v := 20) kc_16_63 rfl rfl ?_
                  refine xi_cmf (pc' := 68) kc_16_65 rfl (xc_le_f (X := a16.toInt) (Y := 20) rfl (by decide) (by omega)) ?_
                  refine xi_iload_n (pc' := 69) (x := a16) kc_16_68 rfl rfl ?_
                  refine xi_bipush (pc' := 71) (v := 99) kc_16_69 rfl rfl ?_
                  refine xi_cmt (pc' := 81) kc_16_71 rfl (xc_eq_t (X := a16.toInt) (Y := 99) rfl (by decide) (by omega)) ?_
                  refine xi_iload_n (pc' := 82) (x := a14) kc_16_81 rfl rfl ?_
                  refine xi_ift (pc' := 94) kc_16_82 rfl (xc_ne_t (X := a14.toInt) (Y := 0) rfl (by decide) (by omega)) ?_
                  refine xi_aload_n (pc' := 95) (x := 115) kc_16_94 rfl rfl ?_
                  refine xi_getfield (pc' := 98) (v := .ref 124) kc_16_95 rfl rfl rfl eh655.1 rfl ?_
                  refine xi_iload_n (pc' := 99) (x := a12) kc_16_98 rfl rfl ?_
                  have A658 := ((eh655.2.1 124 (by decide)).trans ((eh638.2.1 124 (by decide)).trans ((eh588.2.1 124 (by decide)).trans ((eh577.2.1 124 (by decide)).trans A4))))
                  refine xi_iaload (pc' := 100) (v := v587) kc_16_99 rfl A658 (by decide) rfl (xi_in (by omega) (by rw [hy4]; omega)) (xE_ld H1 (by first | omega | decide) (by first | omega | decide) (by omega) ev587) ?_
                  refine xi_istore (pc' := 102) (lv' := [(4, .int v587), (0, .ref 115), (1, .int a12), (2, .int a14), (3, .int a16)]) kc_16_100 rfl rfl (xm_lt ml_16 rfl) ?_
                  refine xi_aload_n (pc' := 103) (x := 115) kc_16_102 rfl rfl ?_
                  refine xi_getfield (pc' := 106) (v := .ref 123) kc_16_103 rfl rfl rfl eh655.1 rfl ?_
                  refine xi_iload_n (pc' := 107) (x := a12) kc_16_106 rfl rfl ?_
                  refine xi_iload_n (pc' := 108) (x := a14) kc_16_107 rfl rfl ?_
                  refine xi_ift (pc' := 115) kc_16_108 rfl (xc_ne_t (X := a14.toInt) (Y := 0) rfl (by decide) (by omega)) ?_
                  refine xi_aload_n (pc' := 116) (x := 115) kc_16_115 rfl rfl ?_
                  refine xi_getfield (pc' := 119) (v := .ref 123) kc_16_116 rfl rfl rfl eh655.1 rfl ?_
                  refine xi_iload_n (pc' := 120) (x := a12) kc_16_119 rfl rfl ?_
                  obtain ⟨v659, ev659, bv659, dv659⟩ := xj_get hy2 ry2 (i := a12) (by omega) (by omega)
                  have A660 := ((eh655.2.1 123 (by decide)).trans ((eh638.2.1 123 (by decide)).trans ((eh588.2.1 123 (by decide)).trans ((eh577.2.1 123 (by decide)).trans A2))))
                  refine xi_iaload (pc' := 121) (v := v659) kc_16_120 rfl A660 (by decide) rfl (xi_in (by omega) (by rw [hy2]; omega)) ev659 ?_
                  obtain ⟨y661, s661, hy661, ry661⟩ := xj_set (v := v659) hy2 ry2 a12 (by first | omega | decide) (by first | omega | decide)
                  refine xi_iastore (pc' := 122) (x' := y661) kc_16_121 rfl A660 rfl (xi_in (by omega) (by rw [hy2]; omega)) s661 (fun hh661 eh661 => ?_)
                  have K662 := xk_pa K657 (xk_wa rfl) xD_123 hy661 ry661 eh661
                  refine xi_aload_n (pc' := 123) (x := 115) kc_16_122 rfl rfl ?_
                  have A663 := ((eh661.2.1 115 (by decide)).trans eh655.1)
                  refine xi_getfield (pc' := 126) (v := .ref 124) kc_16_123 rfl rfl rfl A663 rfl ?_
                  refine xi_iload_n (pc' := 127) (x := a12) kc_16_126 rfl rfl ?_
                  refine xi_iload_n (pc' := 128) (x := a14) kc_16_127 rfl rfl ?_
                  refine xi_iconst (pc' := 129) (v := 1) kc_16_128 rfl rfl ?_
                  refine xi_cmf (pc' := 132) kc_16_129 rfl (xc_ne_f (X := a14.toInt) (Y := 1) rfl (by decide) (by omega)) ?_
                  refine xi_iload_n (pc' := 133) (x := a16) kc_16_132 rfl rfl ?_
                  refine xi_goto (pc' := 142) kc_16_133 rfl ?_
                  have A664 := ((eh661.2.1 124 (by decide)).trans A658)
                  obtain ⟨y665, s665, hy665, ry665⟩ := xj_set (v := a16) hy4 ry4 a12 (by first | omega | decide) (by first | omega | decide)
                  refine xi_iastore (pc' := 143) (x' := y665) kc_16_142 rfl A664 rfl (xi_in (by omega) (by rw [hy4]; omega)) s665 (fun hh665 eh665 => ?_)
                  have K666 := xk_pa K662 (xk_wa rfl) xD_124 hy665 ry665 eh665
                  refine xi_aload_n (pc' := 144) (x := 115) kc_16_143 rfl rfl ?_
                  refine xi_iconst (pc' := 145) (v := 0) kc_16_144 rfl rfl ?_
                  have A667 := ((eh665.2.1 115 (by decide)).trans A663)
                  refine xi_putfield (pc' := 148) (fs' := [.int 0, .int u641, .ref 116, .ref 117, .ref 118, .ref 119, .ref 120, .ref 121, .ref 122, .ref 123, .ref 124, .ref 125, .ref 126, .ref 127, .ref 128, .ref 129, .int u642, .ref 130, .int u643, .ref 131, .ref 132, .ref 133, .ref 134, .int u644, .ref 135, .ref 136, .ref 137, .ref 138, .ref 139, .ref 140, .ref 141, .ref 142, .int u645, .int u646, .int u647, .ref 143, .ref 144, .ref 145, .ref 146, .ref 147, .ref 148, .int 0, .ref 149, .ref 150, .ref 151, .int u649, .ref 152, .ref 153, .ref 154, .ref 155, .ref 156, .ref 157, .ref 158, .ref 159, .int u650, .ref 160, .int u651, .ref 161, .ref 162, .ref 163, .ref 164, .int u652, .ref 165, .ref 166]) kc_16_145 rfl rfl rfl A667 rfl rfl rfl (Nat.le_of_ble_eq_true rfl) rfl (fun hh669 eh668 => ?_)
                  have K670 := xk_pf (k := 41) (v := 0) K666 (xk_wf rfl) xD_115 A667 rfl (by first | omega | decide) (by first | omega | decide) eh668 rfl
                  refine xi_iload (pc' := 150) (x := v587) kc_16_148 rfl rfl ?_
                  refine xi_ireturn kc_16_150 mr_16 rfl ?_
                  show xw J ov 100 195 (334, [(4, .int x4), (3, .ref 167), (2, .ref 115), (1, .ref 0), (0, .ref 1000000)], [.int v587, .int v587], hh669) _
                  refine xi_cmt (pc' := 1501) kc_195_334 rfl (xc_eq_t (X := v587.toInt) (Y := v587.toInt) rfl rfl (by omega)) ?_
                  obtain ⟨v671, ev671⟩ : ∃ q : Int32, x4 + 6 = q := ⟨_, rfl⟩
                  have zv671 : v671.toInt = (x4.toInt + 6) := by rw [← ev671]; exact (xz_add (X := x4.toInt) (Y := 6) rfl (by decide) (by omega) (by omega)).trans (by omega)
                  refine xi_iinc (pc' := 1504) (x := x4) (v := v671) (lv' := [(4, .int v671), (3, .ref 167), (2, .ref 115), (1, .ref 0), (0, .ref 1000000)]) kc_195_1501 rfl rfl ev671 rfl (xm_lt ml_195 rfl) ?_
                  refine xi_goto (pc' := 23) kc_195_1504 rfl ?_
                  have A672 := ((eh668.2.1 6 (by decide)).trans ((eh665.2.1 6 (by decide)).trans ((eh661.2.1 6 (by decide)).trans ((eh655.2.1 6 (by decide)).trans ((eh638.2.1 6 (by decide)).trans ((eh588.2.1 6 (by decide)).trans ((eh577.2.1 6 (by decide)).trans A1)))))))
                  have A673 := ((eh668.2.1 123 (by decide)).trans ((eh665.2.1 123 (by decide)).trans eh661.1))
                  have A674 := ((eh668.2.1 9 (by decide)).trans ((eh665.2.1 9 (by decide)).trans ((eh661.2.1 9 (by decide)).trans ((eh655.2.1 9 (by decide)).trans ((eh638.2.1 9 (by decide)).trans eh588.1)))))
                  have A675 := ((eh668.2.1 124 (by decide)).trans eh665.1)
                  have A676 := ((eh668.2.1 7 (by decide)).trans ((eh665.2.1 7 (by decide)).trans ((eh661.2.1 7 (by decide)).trans ((eh655.2.1 7 (by decide)).trans ((eh638.2.1 7 (by decide)).trans ((eh588.2.1 7 (by decide)).trans ((eh577.2.1 7 (by decide)).trans A5)))))))
                  have A677 := ((eh668.2.1 10 (by decide)).trans ((eh665.2.1 10 (by decide)).trans ((eh661.2.1 10 (by decide)).trans ((eh655.2.1 10 (by decide)).trans eh638.1))))
                  have A678 := ((eh668.2.1 5 (by decide)).trans ((eh665.2.1 5 (by decide)).trans ((eh661.2.1 5 (by decide)).trans ((eh655.2.1 5 (by decide)).trans ((eh638.2.1 5 (by decide)).trans ((eh588.2.1 5 (by decide)).trans ((eh577.2.1 5 (by decide)).trans A8)))))))
                  have A679 := ((eh668.2.1 8 (by decide)).trans ((eh665.2.1 8 (by decide)).trans ((eh661.2.1 8 (by decide)).trans ((eh655.2.1 8 (by decide)).trans ((eh638.2.1 8 (by decide)).trans A591)))))
                  exact kk v671 hh669 (by omega) K670 ⟨(xE_mk A672 A673 (xE_id H0 ev659 s661)), (xE_mk A674 A675 (xE_set H1 (by first | omega | decide) (by omega) (by omega) (by omega) s588 s665)), (xL_mk A676 A672 H2), (xL_mk A677 A674 HL638), (xl_of A678 rfl), (xl_of A679 rfl)⟩
              · refine xi_cmf (pc' := 77) kc_95_74 rfl (xc_eq_f (X := a16.toInt) (Y := 99) rfl (by decide) (by omega)) ?_
                refine xi_aload_n (pc' := 78) (x := 0) kc_95_77 rfl rfl ?_
                refine xi_bipush (pc' := 80) (v := (-6)) kc_95_78 rfl rfl ?_
                refine xi_virtual (mj := 96) (as := [.int (-6)]) (st1 := []) (lv0 := [(0, .ref 0), (1, .int (-6))]) kc_95_80 rfl rfl rfl rfl rfl A19 (Nat.le_of_ble_eq_true rfl) (hJ _ _ _ _ (by decide)) (xm_le ml_96 rfl) rfl ?_
                refine xi_ldc_w (pc' := 3) (v := 1000000000) kc_96_0 rfl rfl ?_
                refine xi_aload_n (pc' := 4) (x := 0) kc_96_3 rfl rfl ?_
                refine xi_iload_n (pc' := 5) (x := (-6)) kc_96_4 rfl rfl ?_
                refine xi_virtual (mj := 90) (as := [.int (-6)]) (st1 := [.int 1000000000]) (lv0 := [(0, .ref 0), (1, .int (-6))]) kc_96_5 rfl rfl rfl rfl rfl A19 (Nat.le_of_ble_eq_true rfl) (hJ _ _ _ _ (by decide)) (xm_le ml_90 rfl) rfl ?_
                refine xi_iload_n (pc' := 1) (x := (-6)) kc_90_0 rfl rfl ?_
                refine xi_ineg (pc' := 2) (v := 6) kc_90_1 rfl rfl ?_
                refine xi_istore_n (pc' := 3) (lv' := [(2, .int 6), (0, .ref 0), (1, .int (-6))]) kc_90_2 rfl rfl (xm_lt ml_90 rfl) ?_
                refine xi_iload_n (pc' := 4) (x := 6) kc_90_3 rfl rfl ?_
                refine xi_iff (pc' := 7) kc_90_4 rfl rfl ?_
                refine xi_iload_n (pc' := 8) (x := 6) kc_90_7 rfl rfl ?_
                refine xi_aload_n (pc' := 9) (x := 0) kc_90_8 rfl rfl ?_
                refine xi_getfield (pc' := 12) (v := .ref 94) kc_90_9 rfl rfl rfl A19 rfl ?_
                obtain ⟨y680, A680, hy680, ry680⟩ := xk_arr K.1 xD_94
                refine xi_arraylength (pc' := 13) (n := 7) (v := 7) kc_90_12 rfl (xl_lenI (by decide) (by decide) A680 hy680) rfl ?_
                refine xi_cmf (pc' := 16) kc_90_13 rfl rfl ?_
                refine xi_aload_n (pc' := 17) (x := 0) kc_90_16 rfl rfl ?_
                refine xi_getfield (pc' := 20) (v := .ref 94) kc_90_17 rfl rfl rfl A19 rfl ?_
                refine xi_iload_n (pc' := 21) (x := 6) kc_90_20 rfl rfl ?_
                refine xi_dup2 (pc' := 22) kc_90_21 rfl ⟨rfl, rfl⟩ ?_
                obtain ⟨v681, ev681, bv681, dv681⟩ := xj_get hy680 ry680 (i := 6) (by decide) (by decide)
                refine xi_iaload (pc' := 23) (v := v681) kc_90_22 rfl A680 (by decide) rfl (xi_in (by decide) (by rw [hy680]; decide)) ev681 ?_
                refine xi_iconst (pc' := 24) (v := 1) kc_90_23 rfl rfl ?_
                obtain ⟨v682, ev682⟩ : ∃ q : Int32, (v681 : Int32) + 1 = q := ⟨_, rfl⟩
                have rv682 := xc_rng v682
                refine xi_iadd (pc' := 25) (v := v682) kc_90_24 rfl ev682 ?_
                obtain ⟨y683, s683, hy683, ry683⟩ := xj_set (v := v682) hy680 ry680 6 (by first | omega | decide) (by first | omega | decide)
                refine xi_iastore (pc' := 26) (x' := y683) kc_90_25 rfl A680 rfl (xi_in (by decide) (by rw [hy680]; decide)) s683 (fun hh683 eh683 => ?_)
                have K684 := xk_pa K (xk_wa rfl) xD_94 hy683 ry683 eh683
                refine xi_iload_n (pc' := 27) (x := (-6)) kc_90_26 rfl rfl ?_
                refine xi_ireturn kc_90_27 mr_90 rfl ?_
                show xw J ov 98 96 (8, [(0, .ref 0), (1, .int (-6))], [.int (-6), .int 1000000000], hh683) _
                refine xi_isub (pc' := 9) (v := 1000000006) kc_96_8 rfl rfl ?_
                refine xi_ireturn kc_96_9 mr_96 rfl ?_
                show xw J ov 99 95 (83, [(5, .int 20), (4, .int 0), (0, .ref 0), (1, .int a12), (2, .int a14), (3, .int a16)], [.int 1000000006], hh683) _
                refine xi_ireturn kc_95_83 mr_95 rfl ?_
                show xw J ov 100 195 (312, [(4, .int x4), (3, .ref 167), (2, .ref 115), (1, .ref 0), (0, .ref 1000000)], [.int 1000000006], hh683) _
                refine xi_aload_n (pc' := 313) (x := 115) kc_195_312 rfl rfl ?_
                refine xi_aload_n (pc' := 314) (x := 1000000) kc_195_313 rfl rfl ?_
                refine xi_iload (pc' := 316) (x := x4) kc_195_314 rfl rfl ?_
                refine xi_iconst (pc' := 317) (v := 1) kc_195_316 rfl rfl ?_
                refine xi_iadd (pc' := 318) (v := v11) kc_195_317 rfl ev11 ?_
                refine xi_ialoadO (pc' := 319) (v := a12) kc_195_318 rfl (by decide) hov0 (xi_in (by omega) (by omega)) ea12 ?_
                refine xi_aload_n (pc' := 320) (x := 1000000) kc_195_319 rfl rfl ?_
                refine xi_iload (pc' := 322) (x := x4) kc_195_320 rfl rfl ?_
                refine xi_iconst (pc' := 323) (v := 2) kc_195_322 rfl rfl ?_
                refine xi_iadd (pc' := 324) (v := v13) kc_195_323 rfl ev13 ?_
                refine xi_ialoadO (pc' := 325) (v := a14) kc_195_324 rfl (by decide) hov0 (xi_in (by omega) (by omega)) ea14 ?_
                refine xi_aload_n (pc' := 326) (x := 1000000) kc_195_325 rfl rfl ?_
                refine xi_iload (pc' := 328) (x := x4) kc_195_326 rfl rfl ?_
                refine xi_iconst (pc' := 329) (v := 3) kc_195_328 rfl rfl ?_
                refine xi_iadd (pc' := 330) (v := v15) kc_195_329 rfl ev15 ?_
                refine xi_ialoadO (pc' := 331) (v := a16) kc_195_330 rfl (by decide) hov0 (xi_in (by omega) (by omega)) ea16 ?_
                obtain ⟨u685, u686, u687, u688, u689, u690, u691, u692, u693, u694, u695, u696, u697, bu685, bu686, bu687, bu688, bu689, bu690, bu691, bu692, bu693, bu694, bu695, bu696, bu697, A698⟩ := xq_115 K.1
                have A699 := ((eh683.2.1 115 (by decide)).trans A698)
                refine xi_virtual (mj := 16) (as := [.int a12, .int a14, .int a16]) (st1 := [.int 1000000006]) (lv0 := [(0, .ref 115), (1, .int a12), (2, .int a14), (3, .int a16)]) kc_195_331 rfl rfl rfl rfl rfl A699 (Nat.le_of_ble_eq_true rfl) (hJ _ _ _ _ (by decide)) (xm_le ml_16 rfl) rfl ?_
                refine xi_aload_n (pc' := 1) (x := 115) kc_16_0 rfl rfl ?_
                refine xi_iconst (pc' := 2) (v := 0) kc_16_1 rfl rfl ?_
                refine xi_putfield (pc' := 5) (fs' := [.int 0, .int u686, .ref 116, .ref 117, .ref 118, .ref 119, .ref 120, .ref 121, .ref 122, .ref 123, .ref 124, .ref 125, .ref 126, .ref 127, .ref 128, .ref 129, .int u687, .ref 130, .int u688, .ref 131, .ref 132, .ref 133, .ref 134, .int u689, .ref 135, .ref 136, .ref 137, .ref 138, .ref 139, .ref 140, .ref 141, .ref 142, .int u690, .int u691, .int u692, .ref 143, .ref 144, .ref 145, .ref 146, .ref 147, .ref 148, .int u693, .ref 149, .ref 150, .ref 151, .int u694, .ref 152, .ref 153, .ref 154, .ref 155, .ref 156, .ref 157, .ref 158, .ref 159, .int u695, .ref 160, .int u696, .ref 161, .ref 162, .ref 163, .ref 164, .int u697, .ref 165, .ref 166]) kc_16_2 rfl rfl rfl A699 rfl rfl rfl (Nat.le_of_ble_eq_true rfl) rfl (fun hh701 eh700 => ?_)
                have K702 := xk_pf (k := 0) (v := 0) K684 (xk_wf rfl) xD_115 A699 rfl (by first | omega | decide) (by first | omega | decide) eh700 rfl
                refine xi_iload_n (pc' := 6) (x := a14) kc_16_5 rfl rfl ?_
                refine xi_iconst (pc' := 7) (v := 0) kc_16_6 rfl rfl ?_
                refine xi_iconst (pc' := 8) (v := 1) kc_16_7 rfl rfl ?_
                refine xi_static (mj := 11) (as := [.int a14, .int 0, .int 1]) (st1 := []) (lv0 := [(0, .int a14), (1, .int 0), (2, .int 1)]) kc_16_8 rfl rfl (Nat.le_of_ble_eq_true rfl) rfl rfl (Nat.le_of_ble_eq_true rfl) (hJ _ _ _ _ (by decide)) (xm_le ml_11 rfl) rfl ?_
                refine xi_iload_n (pc' := 1) (x := a14) kc_11_0 rfl rfl ?_
                refine xi_iload_n (pc' := 2) (x := 0) kc_11_1 rfl rfl ?_
                refine xi_cmf (pc' := 5) kc_11_2 rfl (xc_lt_f (X := a14.toInt) (Y := 0) rfl (by decide) (by omega)) ?_
                refine xi_iload_n (pc' := 6) (x := a14) kc_11_5 rfl rfl ?_
                refine xi_iload_n (pc' := 7) (x := 1) kc_11_6 rfl rfl ?_
                refine xi_cmf (pc' := 10) kc_11_7 rfl (xc_gt_f (X := a14.toInt) (Y := 1) rfl (by decide) (by omega)) ?_
                refine xi_iconst (pc' := 11) (v := 1) kc_11_10 rfl rfl ?_
                refine xi_goto (pc' := 15) kc_11_11 rfl ?_
                refine xi_ireturn kc_11_15 mr_11 rfl ?_
                show xw J ov 99 16 (11, [(0, .ref 115), (1, .int a12), (2, .int a14), (3, .int a16)], [.int 1], hh701) _
                refine xi_ift (pc' := 21) kc_16_11 rfl rfl ?_
                refine xi_iload_n (pc' := 22) (x := a12) kc_16_21 rfl rfl ?_
                refine xi_iff (pc' := 25) kc_16_22 rfl (xc_lt_f (X := a12.toInt) (Y := 0) rfl (by decide) (by omega)) ?_
                refine xi_iload_n (pc' := 26) (x := a16) kc_16_25 rfl rfl ?_
                refine xi_iload_n (pc' := 27) (x := a14) kc_16_26 rfl rfl ?_
                refine xi_ift (pc' := 35) kc_16_27 rfl (xc_ne_t (X := a14.toInt) (Y := 0) rfl (by decide) (by omega)) ?_
                refine xi_iconst (pc' := 36) (v := 0) kc_16_35 rfl rfl ?_
                refine xi_cmt (pc' := 46) kc_16_36 rfl (xc_ge_t (X := a16.toInt) (Y := 0) rfl (by decide) (by omega)) ?_
                refine xi_iload_n (pc' := 47) (x := a12) kc_16_46 rfl rfl ?_
                refine xi_sipush (pc' := 50) (v := 599) kc_16_47 rfl rfl ?_
                refine xi_cmf (pc' := 53) kc_16_50 rfl (xc_gt_f (X := a12.toInt) (Y := 599) rfl (by decide) (by omega)) ?_
                refine xi_iload_n (pc' := 54) (x := a16) kc_16_53 rfl rfl ?_
                refine xi_iload_n (pc' := 55) (x := a14) kc_16_54 rfl rfl ?_
                refine xi_ift (pc' := 63) kc_16_55 rfl (xc_ne_t (X := a14.toInt) (Y := 0) rfl (by decide) (by omega)) ?_
                refine xi_bipush (pc' := 65) (v := 20) kc_16_63 rfl rfl ?_
                refine xi_cmf (pc' := 68) kc_16_65 rfl (xc_le_f (X := a16.toInt) (Y := 20) rfl (by decide) (by omega)) ?_
                refine xi_iload_n (pc' := 69) (x := a16) kc_16_68 rfl rfl ?_
                refine xi_bipush (pc' := 71) (v := 99) kc_16_69 rfl rfl ?_
                refine xi_cmf (pc' := 74) kc_16_71 rfl (xc_eq_f (X := a16.toInt) (Y := 99) rfl (by decide) (by omega)) ?_
                refine xi_aload_n (pc' := 75) (x := 115) kc_16_74 rfl rfl ?_
                refine xi_bipush (pc' := 77) (v := (-6)) kc_16_75 rfl rfl ?_
                refine xi_virtual (mj := 17) (as := [.int (-6)]) (st1 := []) (lv0 := [(0, .ref 115), (1, .int (-6))]) kc_16_77 rfl rfl rfl rfl rfl eh700.1 (Nat.le_of_ble_eq_true rfl) (hJ _ _ _ _ (by decide)) (xm_le ml_17 rfl) rfl ?_
                refine xi_aload_n (pc' := 1) (x := 115) kc_17_0 rfl rfl ?_
                refine xi_getfield (pc' := 4) (v := .ref 140) kc_17_1 rfl rfl rfl eh700.1 rfl ?_
                refine xi_iload_n (pc' := 5) (x := (-6)) kc_17_4 rfl rfl ?_
                refine xi_ineg (pc' := 6) (v := 6) kc_17_5 rfl rfl ?_
                refine xi_dup2 (pc' := 7) kc_17_6 rfl ⟨rfl, rfl⟩ ?_
                obtain ⟨y703, A703, hy703, ry703⟩ := xk_arr K.1 xD_140
                obtain ⟨v704, ev704, bv704, dv704⟩ := xj_get hy703 ry703 (i := 6) (by decide) (by decide)
                have A705 := ((eh700.2.1 140 (by decide)).trans ((eh683.2.1 140 (by decide)).trans A703))
                refine xi_iaload (pc' := 8) (v := v704) kc_17_7 rfl A705 (by decide) rfl (xi_in (by decide) (by rw [hy703]; decide)) ev704 ?_
                refine xi_iconst (pc' := 9) (v := 1) kc_17_8 rfl rfl ?_
                obtain ⟨v706, ev706⟩ : ∃ q : Int32, (v704 : Int32) + 1 = q := ⟨_, rfl⟩
                have rv706 := xc_rng v706
                refine xi_iadd (pc' := 10) (v := v706) kc_17_9 rfl ev706 ?_
                obtain ⟨y707, s707, hy707, ry707⟩ := xj_set (v := v706) hy703 ry703 6 (by first | omega | decide) (by first | omega | decide)
                refine xi_iastore (pc' := 11) (x' := y707) kc_17_10 rfl A705 rfl (xi_in (by decide) (by rw [hy703]; decide)) s707 (fun hh707 eh707 => ?_)
                have K708 := xk_pa K702 (xk_wa rfl) xD_140 hy707 ry707 eh707
                refine xi_ldc (pc' := 13) (v := 1000000000) kc_17_11 rfl rfl ?_
                refine xi_iload_n (pc' := 14) (x := (-6)) kc_17_13 rfl rfl ?_
                refine xi_isub (pc' := 15) (v := 1000000006) kc_17_14 rfl rfl ?_
                refine xi_ireturn kc_17_15 mr_17 rfl ?_
                show xw J ov 99 16 (80, [(0, .ref 115), (1, .int a12), (2, .int a14), (3, .int a16)], [.int 1000000006], hh707) _
                refine xi_ireturn kc_16_80 mr_16 rfl ?_
                show xw J ov 100 195 (334, [(4, .int x4), (3, .ref 167), (2, .ref 115), (1, .ref 0), (0, .ref 1000000)], [.int 1000000006, .int 1000000006], hh707) _
                refine xi_cmt (pc' := 1501) kc_195_334 rfl rfl ?_
                obtain ⟨v709, ev709⟩ : ∃ q : Int32, x4 + 6 = q := ⟨_, rfl⟩
                have zv709 : v709.toInt = (x4.toInt + 6) := by rw [← ev709]; exact (xz_add (X := x4.toInt) (Y := 6) rfl (by decide) (by omega) (by omega)).trans (by omega)
                refine xi_iinc (pc' := 1504) (x := x4) (v := v709) (lv' := [(4, .int v709), (3, .ref 167), (2, .ref 115), (1, .ref 0), (0, .ref 1000000)]) kc_195_1501 rfl rfl ev709 rfl (xm_lt ml_195 rfl) ?_
                refine xi_goto (pc' := 23) kc_195_1504 rfl ?_
                have A710 := ((eh707.2.1 6 (by decide)).trans ((eh700.2.1 6 (by decide)).trans ((eh683.2.1 6 (by decide)).trans A1)))
                have A711 := ((eh707.2.1 123 (by decide)).trans ((eh700.2.1 123 (by decide)).trans ((eh683.2.1 123 (by decide)).trans A2)))
                have A712 := ((eh707.2.1 9 (by decide)).trans ((eh700.2.1 9 (by decide)).trans ((eh683.2.1 9 (by decide)).trans A3)))
                have A713 := ((eh707.2.1 124 (by decide)).trans ((eh700.2.1 124 (by decide)).trans ((eh683.2.1 124 (by decide)).trans A4)))
                have A714 := ((eh707.2.1 7 (by decide)).trans ((eh700.2.1 7 (by decide)).trans ((eh683.2.1 7 (by decide)).trans A5)))
                have A715 := ((eh707.2.1 10 (by decide)).trans ((eh700.2.1 10 (by decide)).trans ((eh683.2.1 10 (by decide)).trans A6)))
                have A716 := ((eh707.2.1 5 (by decide)).trans ((eh700.2.1 5 (by decide)).trans ((eh683.2.1 5 (by decide)).trans A8)))
                have A717 := ((eh707.2.1 8 (by decide)).trans ((eh700.2.1 8 (by decide)).trans ((eh683.2.1 8 (by decide)).trans A10)))
                exact kk v709 hh707 (by omega) K708 ⟨(xE_mk A710 A711 H0), (xE_mk A712 A713 H1), (xL_mk A714 A710 H2), (xL_mk A715 A712 H3), (xl_of A716 rfl), (xl_of A717 rfl)⟩
        · refine xi_cmf (pc' := 51) kc_95_48 rfl (xc_ge_f (X := a16.toInt) (Y := 0) rfl (by decide) (by omega)) ?_
          refine xi_aload_n (pc' := 52) (x := 0) kc_95_51 rfl rfl ?_
          refine xi_bipush (pc' := 54) (v := (-4)) kc_95_52 rfl rfl ?_
          refine xi_virtual (mj := 96) (as := [.int (-4)]) (st1 := []) (lv0 := [(0, .ref 0), (1, .int (-4))]) kc_95_54 rfl rfl rfl rfl rfl A19 (Nat.le_of_ble_eq_true rfl) (hJ _ _ _ _ (by decide)) (xm_le ml_96 rfl) rfl ?_
          refine xi_ldc_w (pc' := 3) (v := 1000000000) kc_96_0 rfl rfl ?_
          refine xi_aload_n (pc' := 4) (x := 0) kc_96_3 rfl rfl ?_
          refine xi_iload_n (pc' := 5) (x := (-4)) kc_96_4 rfl rfl ?_
          refine xi_virtual (mj := 90) (as := [.int (-4)]) (st1 := [.int 1000000000]) (lv0 := [(0, .ref 0), (1, .int (-4))]) kc_96_5 rfl rfl rfl rfl rfl A19 (Nat.le_of_ble_eq_true rfl) (hJ _ _ _ _ (by decide)) (xm_le ml_90 rfl) rfl ?_
          refine xi_iload_n (pc' := 1) (x := (-4)) kc_90_0 rfl rfl ?_
          refine xi_ineg (pc' := 2) (v := 4) kc_90_1 rfl rfl ?_
          refine xi_istore_n (pc' := 3) (lv' := [(2, .int 4), (0, .ref 0), (1, .int (-4))]) kc_90_2 rfl rfl (xm_lt ml_90 rfl) ?_
          refine xi_iload_n (pc' := 4) (x := 4) kc_90_3 rfl rfl ?_
          refine xi_iff (pc' := 7) kc_90_4 rfl rfl ?_
          refine xi_iload_n (pc' := 8) (x := 4) kc_90_7 rfl rfl ?_
          refine xi_aload_n (pc' := 9) (x := 0) kc_90_8 rfl rfl ?_
          refine xi_getfield (pc' := 12) (v := .ref 94) kc_90_9 rfl rfl rfl A19 rfl ?_
          obtain ⟨y718, A718, hy718, ry718⟩ := xk_arr K.1 xD_94
          refine xi_arraylength (pc' := 13) (n := 7) (v := 7) kc_90_12 rfl (xl_lenI (by decide) (by decide) A718 hy718) rfl ?_
          refine xi_cmf (pc' := 16) kc_90_13 rfl rfl ?_
          refine xi_aload_n (pc' := 17) (x := 0) kc_90_16 rfl rfl ?_
          refine xi_getfield (pc' := 20) (v := .ref 94) kc_90_17 rfl rfl rfl A19 rfl ?_
          refine xi_iload_n (pc' := 21) (x := 4) kc_90_20 rfl rfl ?_
          refine xi_dup2 (pc' := 22) kc_90_21 rfl ⟨rfl, rfl⟩ ?_
          obtain ⟨v719, ev719, bv719, dv719⟩ := xj_get hy718 ry718 (i := 4) (by decide) (by decide)
          refine xi_iaload (pc' := 23) (v := v719) kc_90_22 rfl A718 (by decide) rfl (xi_in (by decide) (by rw [hy718]; decide)) ev719 ?_
          refine xi_iconst (pc' := 24) (v := 1) kc_90_23 rfl rfl ?_
          obtain ⟨v720, ev720⟩ : ∃ q : Int32, (v719 : Int32) + 1 = q := ⟨_, rfl⟩
          have rv720 := xc_rng v720
          refine xi_iadd (pc' := 25) (v := v720) kc_90_24 rfl ev720 ?_
          obtain ⟨y721, s721, hy721, ry721⟩ := xj_set (v := v720) hy718 ry718 4 (by first | omega | decide) (by first | omega | decide)
          refine xi_iastore (pc' := 26) (x' := y721) kc_90_25 rfl A718 rfl (xi_in (by decide) (by rw [hy718]; decide)) s721 (fun hh721 eh721 => ?_)
          have K722 := xk_pa K (xk_wa rfl) xD_94 hy721 ry721 eh721
          refine xi_iload_n (pc' := 27) (x := (-4)) kc_90_26 rfl rfl ?_
          refine xi_ireturn kc_90_27 mr_90 rfl ?_
          show xw J ov 98 96 (8, [(0, .ref 0), (1, .int (-4))], [.int (-4), .int 1000000000], hh721) _
          refine xi_isub (pc' := 9) (v := 1000000004) kc_96_8 rfl rfl ?_
          refine xi_ireturn kc_96_9 mr_96 rfl ?_
          show xw J ov 99 95 (57, [(5, .int 20), (4, .int 0), (0, .ref 0), (1, .int a12), (2, .int a14), (3, .int a16)], [.int 1000000004], hh721) _
          refine xi_ireturn kc_95_57 mr_95 rfl ?_
          show xw J ov 100 195 (312, [(4, .int x4), (3, .ref 167), (2, .ref 115), (1, .ref 0), (0, .ref 1000000)], [.int 1000000004], hh721) _
          refine xi_aload_n (pc' := 313) (x := 115) kc_195_312 rfl rfl ?_
          refine xi_aload_n (pc' := 314) (x := 1000000) kc_195_313 rfl rfl ?_
          refine xi_iload (pc' := 316) (x := x4) kc_195_314 rfl rfl ?_
          refine xi_iconst (pc' := 317) (v := 1) kc_195_316 rfl rfl ?_
          refine xi_iadd (pc' := 318) (v := v11) kc_195_317 rfl ev11 ?_
          refine xi_ialoadO (pc' := 319) (v := a12) kc_195_318 rfl (by decide) hov0 (xi_in (by omega) (by omega)) ea12 ?_
          refine xi_aload_n (pc' := 320) (x := 1000000) kc_195_319 rfl rfl ?_
          refine xi_iload (pc' := 322) (x := x4) kc_195_320 rfl rfl ?_
          refine xi_iconst (pc' := 323) (v := 2) kc_195_322 rfl rfl ?_
          refine xi_iadd (pc' := 324) (v := v13) kc_195_323 rfl ev13 ?_
          refine xi_ialoadO (pc' := 325) (v := a14) kc_195_324 rfl (by decide) hov0 (xi_in (by omega) (by omega)) ea14 ?_
          refine xi_aload_n (pc' := 326) (x := 1000000) kc_195_325 rfl rfl ?_
          refine xi_iload (pc' := 328) (x := x4) kc_195_326 rfl rfl ?_
          refine xi_iconst (pc' := 329) (v := 3) kc_195_328 rfl rfl ?_
          refine xi_iadd (pc' := 330) (v := v15) kc_195_329 rfl ev15 ?_
          refine xi_ialoadO (pc' := 331) (v := a16) kc_195_330 rfl (by decide) hov0 (xi_in (by omega) (by omega)) ea16 ?_
          obtain ⟨u723, u724, u725, u726, u727, u728, u729, u730, u731, u732, u733, u734, u735, bu723, bu724, bu725, bu726, bu727, bu728, bu729, bu730, bu731, bu732, bu733, bu734, bu735, A736⟩ := xq_115 K.1
          have A737 := ((eh721.2.1 115 (by decide)).trans A736)
          refine xi_virtual (mj := 16) (as := [.int a12, .int a14, .int a16]) (st1 := [.int 1000000004]) (lv0 := [(0, .ref 115), (1, .int a12), (2, .int a14), (3, .int a16)]) kc_195_331 rfl rfl rfl rfl rfl A737 (Nat.le_of_ble_eq_true rfl) (hJ _ _ _ _ (by decide)) (xm_le ml_16 rfl) rfl ?_
          refine xi_aload_n (pc' := 1) (x := 115) kc_16_0 rfl rfl ?_
          refine xi_iconst (pc' := 2) (v := 0) kc_16_1 rfl rfl ?_
          refine xi_putfield (pc' := 5) (fs' := [.int 0, .int u724, .ref 116, .ref 117, .ref 118, .ref 119, .ref 120, .ref 121, .ref 122, .ref 123, .ref 124, .ref 125, .ref 126, .ref 127, .ref 128, .ref 129, .int u725, .ref 130, .int u726, .ref 131, .ref 132, .ref 133, .ref 134, .int u727, .ref 135, .ref 136, .ref 137, .ref 138, .ref 139, .ref 140, .ref 141, .ref 142, .int u728, .int u729, .int u730, .ref 143, .ref 144, .ref 145, .ref 146, .ref 147, .ref 148, .int u731, .ref 149, .ref 150, .ref 151, .int u732, .ref 152, .ref 153, .ref 154, .ref 155, .ref 156, .ref 157, .ref 158, .ref 159, .int u733, .ref 160, .int u734, .ref 161, .ref 162, .ref 163, .ref 164, .int u735, .ref 165, .ref 166]) kc_16_2 rfl rfl rfl A737 rfl rfl rfl (Nat.le_of_ble_eq_true rfl) rfl (fun hh739 eh738 => ?_)
          have K740 := xk_pf (k := 0) (v := 0) K722 (xk_wf rfl) xD_115 A737 rfl (by first | omega | decide) (by first | omega | decide) eh738 rfl
          refine xi_iload_n (pc' := 6) (x := a14) kc_16_5 rfl rfl ?_
          refine xi_iconst (pc' := 7) (v := 0) kc_16_6 rfl rfl ?_
          refine xi_iconst (pc' := 8) (v := 1) kc_16_7 rfl rfl ?_
          refine xi_static (mj := 11) (as := [.int a14, .int 0, .int 1]) (st1 := []) (lv0 := [(0, .int a14), (1, .int 0), (2, .int 1)]) kc_16_8 rfl rfl (Nat.le_of_ble_eq_true rfl) rfl rfl (Nat.le_of_ble_eq_true rfl) (hJ _ _ _ _ (by decide)) (xm_le ml_11 rfl) rfl ?_
          refine xi_iload_n (pc' := 1) (x := a14) kc_11_0 rfl rfl ?_
          refine xi_iload_n (pc' := 2) (x := 0) kc_11_1 rfl rfl ?_
          refine xi_cmf (pc' := 5) kc_11_2 rfl (xc_lt_f (X := a14.toInt) (Y := 0) rfl (by decide) (by omega)) ?_
          refine xi_iload_n (pc' := 6) (x := a14) kc_11_5 rfl rfl ?_
          refine xi_iload_n (pc' := 7) (x := 1) kc_11_6 rfl rfl ?_
          refine xi_cmf (pc' := 10) kc_11_7 rfl (xc_gt_f (X := a14.toInt) (Y := 1) rfl (by decide) (by omega)) ?_
          refine xi_iconst (pc' := 11) (v := 1) kc_11_10 rfl rfl ?_
          refine xi_goto (pc' := 15) kc_11_11 rfl ?_
          refine xi_ireturn kc_11_15 mr_11 rfl ?_
          show xw J ov 99 16 (11, [(0, .ref 115), (1, .int a12), (2, .int a14), (3, .int a16)], [.int 1], hh739) _
          refine xi_ift (pc' := 21) kc_16_11 rfl rfl ?_
          refine xi_iload_n (pc' := 22) (x := a12) kc_16_21 rfl rfl ?_
          refine xi_iff (pc' := 25) kc_16_22 rfl (xc_lt_f (X := a12.toInt) (Y := 0) rfl (by decide) (by omega)) ?_
          refine xi_iload_n (pc' := 26) (x := a16) kc_16_25 rfl rfl ?_
          refine xi_iload_n (pc' := 27) (x := a14) kc_16_26 rfl rfl ?_
          refine xi_ift (pc' := 35) kc_16_27 rfl (xc_ne_t (X := a14.toInt) (Y := 0) rfl (by decide) (by omega)) ?_
          refine xi_iconst (pc' := 36) (v := 0) kc_16_35 rfl rfl ?_
          refine xi_cmf (pc' := 39) kc_16_36 rfl (xc_ge_f (X := a16.toInt) (Y := 0) rfl (by decide) (by omega)) ?_
          refine xi_aload_n (pc' := 40) (x := 115) kc_16_39 rfl rfl ?_
          refine xi_bipush (pc' := 42) (v := (-4)) kc_16_40 rfl rfl ?_
          refine xi_virtual (mj := 17) (as := [.int (-4)]) (st1 := []) (lv0 := [(0, .ref 115), (1, .int (-4))]) kc_16_42 rfl rfl rfl rfl rfl eh738.1 (Nat.le_of_ble_eq_true rfl) (hJ _ _ _ _ (by decide)) (xm_le ml_17 rfl) rfl ?_
          refine xi_aload_n (pc' := 1) (x := 115) kc_17_0 rfl rfl ?_
          refine xi_getfield (pc' := 4) (v := .ref 140) kc_17_1 rfl rfl rfl eh738.1 rfl ?_
          refine xi_iload_n (pc' := 5) (x := (-4)) kc_17_4 rfl rfl ?_
          refine xi_ineg (pc' := 6) (v := 4) kc_17_5 rfl rfl ?_
          refine xi_dup2 (pc' := 7) kc_17_6 rfl ⟨rfl, rfl⟩ ?_
          obtain ⟨y741, A741, hy741, ry741⟩ := xk_arr K.1 xD_140
          obtain ⟨v742, ev742, bv742, dv742⟩ := xj_get hy741 ry741 (i := 4) (by decide) (by decide)
          have A743 := ((eh738.2.1 140 (by decide)).trans ((eh721.2.1 140 (by decide)).trans A741))
          refine xi_iaload (pc' := 8) (v := v742) kc_17_7 rfl A743 (by decide) rfl (xi_in (by decide) (by rw [hy741]; decide)) ev742 ?_
          refine xi_iconst (pc' := 9) (v := 1) kc_17_8 rfl rfl ?_
          obtain ⟨v744, ev744⟩ : ∃ q : Int32, (v742 : Int32) + 1 = q := ⟨_, rfl⟩
          have rv744 := xc_rng v744
          refine xi_iadd (pc' := 10) (v := v744) kc_17_9 rfl ev744 ?_
          obtain ⟨y745, s745, hy745, ry745⟩ := xj_set (v := v744) hy741 ry741 4 (by first | omega | decide) (by first | omega | decide)
          refine xi_iastore (pc' := 11) (x' := y745) kc_17_10 rfl A743 rfl (xi_in (by decide) (by rw [hy741]; decide)) s745 (fun hh745 eh745 => ?_)
          have K746 := xk_pa K740 (xk_wa rfl) xD_140 hy745 ry745 eh745
          refine xi_ldc (pc' := 13) (v := 1000000000) kc_17_11 rfl rfl ?_
          refine xi_iload_n (pc' := 14) (x := (-4)) kc_17_13 rfl rfl ?_
          refine xi_isub (pc' := 15) (v := 1000000004) kc_17_14 rfl rfl ?_
          refine xi_ireturn kc_17_15 mr_17 rfl ?_
          show xw J ov 99 16 (45, [(0, .ref 115), (1, .int a12), (2, .int a14), (3, .int a16)], [.int 1000000004], hh745) _
          refine xi_ireturn kc_16_45 mr_16 rfl ?_
          show xw J ov 100 195 (334, [(4, .int x4), (3, .ref 167), (2, .ref 115), (1, .ref 0), (0, .ref 1000000)], [.int 1000000004, .int 1000000004], hh745) _
          refine xi_cmt (pc' := 1501) kc_195_334 rfl rfl ?_
          obtain ⟨v747, ev747⟩ : ∃ q : Int32, x4 + 6 = q := ⟨_, rfl⟩
          have zv747 : v747.toInt = (x4.toInt + 6) := by rw [← ev747]; exact (xz_add (X := x4.toInt) (Y := 6) rfl (by decide) (by omega) (by omega)).trans (by omega)
          refine xi_iinc (pc' := 1504) (x := x4) (v := v747) (lv' := [(4, .int v747), (3, .ref 167), (2, .ref 115), (1, .ref 0), (0, .ref 1000000)]) kc_195_1501 rfl rfl ev747 rfl (xm_lt ml_195 rfl) ?_
          refine xi_goto (pc' := 23) kc_195_1504 rfl ?_
          have A748 := ((eh745.2.1 6 (by decide)).trans ((eh738.2.1 6 (by decide)).trans ((eh721.2.1 6 (by decide)).trans A1)))
          have A749 := ((eh745.2.1 123 (by decide)).trans ((eh738.2.1 123 (by decide)).trans ((eh721.2.1 123 (by decide)).trans A2)))
          have A750 := ((eh745.2.1 9 (by decide)).trans ((eh738.2.1 9 (by decide)).trans ((eh721.2.1 9 (by decide)).trans A3)))
          have A751 := ((eh745.2.1 124 (by decide)).trans ((eh738.2.1 124 (by decide)).trans ((eh721.2.1 124 (by decide)).trans A4)))
          have A752 := ((eh745.2.1 7 (by decide)).trans ((eh738.2.1 7 (by decide)).trans ((eh721.2.1 7 (by decide)).trans A5)))
          have A753 := ((eh745.2.1 10 (by decide)).trans ((eh738.2.1 10 (by decide)).trans ((eh721.2.1 10 (by decide)).trans A6)))
          have A754 := ((eh745.2.1 5 (by decide)).trans ((eh738.2.1 5 (by decide)).trans ((eh721.2.1 5 (by decide)).trans A8)))
          have A755 := ((eh745.2.1 8 (by decide)).trans ((eh738.2.1 8 (by decide)).trans ((eh721.2.1 8 (by decide)).trans A10)))
          exact kk v747 hh745 (by omega) K746 ⟨(xE_mk A748 A749 H0), (xE_mk A750 A751 H1), (xL_mk A752 A748 H2), (xL_mk A753 A750 H3), (xl_of A754 rfl), (xl_of A755 rfl)⟩
    · refine xi_cmf (pc' := 9) kc_95_6 rfl (xc_eq_f (X := a14.toInt) (Y := 1) rfl (by decide) (by omega)) ?_
      refine xi_aload_n (pc' := 10) (x := 0) kc_95_9 rfl rfl ?_
      refine xi_bipush (pc' := 12) (v := (-2)) kc_95_10 rfl rfl ?_
      refine xi_virtual (mj := 96) (as := [.int (-2)]) (st1 := []) (lv0 := [(0, .ref 0), (1, .int (-2))]) kc_95_12 rfl rfl rfl rfl rfl A19 (Nat.le_of_ble_eq_true rfl) (hJ _ _ _ _ (by decide)) (xm_le ml_96 rfl) rfl ?_
      refine xi_ldc_w (pc' := 3) (v := 1000000000) kc_96_0 rfl rfl ?_
      refine xi_aload_n (pc' := 4) (x := 0) kc_96_3 rfl rfl ?_
      refine xi_iload_n (pc' := 5) (x := (-2)) kc_96_4 rfl rfl ?_
      refine xi_virtual (mj := 90) (as := [.int (-2)]) (st1 := [.int 1000000000]) (lv0 := [(0, .ref 0), (1, .int (-2))]) kc_96_5 rfl rfl rfl rfl rfl A19 (Nat.le_of_ble_eq_true rfl) (hJ _ _ _ _ (by decide)) (xm_le ml_90 rfl) rfl ?_
      refine xi_iload_n (pc' := 1) (x := (-2)) kc_90_0 rfl rfl ?_
      refine xi_ineg (pc' := 2) (v := 2) kc_90_1 rfl rfl ?_
      refine xi_istore_n (pc' := 3) (lv' := [(2, .int 2), (0, .ref 0), (1, .int (-2))]) kc_90_2 rfl rfl (xm_lt ml_90 rfl) ?_
      refine xi_iload_n (pc' := 4) (x := 2) kc_90_3 rfl rfl ?_
      refine xi_iff (pc' := 7) kc_90_4 rfl rfl ?_
      refine xi_iload_n (pc' := 8) (x := 2) kc_90_7 rfl rfl ?_
      refine xi_aload_n (pc' := 9) (x := 0) kc_90_8 rfl rfl ?_
      refine xi_getfield (pc' := 12) (v := .ref 94) kc_90_9 rfl rfl rfl A19 rfl ?_
      obtain ⟨y756, A756, hy756, ry756⟩ := xk_arr K.1 xD_94
      refine xi_arraylength (pc' := 13) (n := 7) (v := 7) kc_90_12 rfl (xl_lenI (by decide) (by decide) A756 hy756) rfl ?_
      refine xi_cmf (pc' := 16) kc_90_13 rfl rfl ?_
      refine xi_aload_n (pc' := 17) (x := 0) kc_90_16 rfl rfl ?_
      refine xi_getfield (pc' := 20) (v := .ref 94) kc_90_17 rfl rfl rfl A19 rfl ?_
      refine xi_iload_n (pc' := 21) (x := 2) kc_90_20 rfl rfl ?_
      refine xi_dup2 (pc' := 22) kc_90_21 rfl ⟨rfl, rfl⟩ ?_
      obtain ⟨v757, ev757, bv757, dv757⟩ := xj_get hy756 ry756 (i := 2) (by decide) (by decide)
      refine xi_iaload (pc' := 23) (v := v757) kc_90_22 rfl A756 (by decide) rfl (xi_in (by decide) (by rw [hy756]; decide)) ev757 ?_
      refine xi_iconst (pc' := 24) (v := 1) kc_90_23 rfl rfl ?_
      obtain ⟨v758, ev758⟩ : ∃ q : Int32, (v757 : Int32) + 1 = q := ⟨_, rfl⟩
      have rv758 := xc_rng v758
      refine xi_iadd (pc' := 25) (v := v758) kc_90_24 rfl ev758 ?_
      obtain ⟨y759, s759, hy759, ry759⟩ := xj_set (v := v758) hy756 ry756 2 (by first | omega | decide) (by first | omega | decide)
      refine xi_iastore (pc' := 26) (x' := y759) kc_90_25 rfl A756 rfl (xi_in (by decide) (by rw [hy756]; decide)) s759 (fun hh759 eh759 => ?_)
      have K760 := xk_pa K (xk_wa rfl) xD_94 hy759 ry759 eh759
      refine xi_iload_n (pc' := 27) (x := (-2)) kc_90_26 rfl rfl ?_
      refine xi_ireturn kc_90_27 mr_90 rfl ?_
      show xw J ov 98 96 (8, [(0, .ref 0), (1, .int (-2))], [.int (-2), .int 1000000000], hh759) _
      refine xi_isub (pc' := 9) (v := 1000000002) kc_96_8 rfl rfl ?_
      refine xi_ireturn kc_96_9 mr_96 rfl ?_
      show xw J ov 99 95 (15, [(0, .ref 0), (1, .int a12), (2, .int a14), (3, .int a16)], [.int 1000000002], hh759) _
      refine xi_ireturn kc_95_15 mr_95 rfl ?_
      show xw J ov 100 195 (312, [(4, .int x4), (3, .ref 167), (2, .ref 115), (1, .ref 0), (0, .ref 1000000)], [.int 1000000002], hh759) _
      refine xi_aload_n (pc' := 313) (x := 115) kc_195_312 rfl rfl ?_
      refine xi_aload_n (pc' := 314) (x := 1000000) kc_195_313 rfl rfl ?_
      refine xi_iload (pc' := 316) (x := x4) kc_195_314 rfl rfl ?_
      refine xi_iconst (pc' := 317) (v := 1) kc_195_316 rfl rfl ?_
      refine xi_iadd (pc' := 318) (v := v11) kc_195_317 rfl ev11 ?_
      refine xi_ialoadO (pc' := 319) (v := a12) kc_195_318 rfl (by decide) hov0 (xi_in (by omega) (by omega)) ea12 ?_
      refine xi_aload_n (pc' := 320) (x := 1000000) kc_195_319 rfl rfl ?_
      refine xi_iload (pc' := 322) (x := x4) kc_195_320 rfl rfl ?_
      refine xi_iconst (pc' := 323) (v := 2) kc_195_322 rfl rfl ?_
      refine xi_iadd (pc' := 324) (v := v13) kc_195_323 rfl ev13 ?_
      refine xi_ialoadO (pc' := 325) (v := a14) kc_195_324 rfl (by decide) hov0 (xi_in (by omega) (by omega)) ea14 ?_
      refine xi_aload_n (pc' := 326) (x := 1000000) kc_195_325 rfl rfl ?_
      refine xi_iload (pc' := 328) (x := x4) kc_195_326 rfl rfl ?_
      refine xi_iconst (pc' := 329) (v := 3) kc_195_328 rfl rfl ?_
      refine xi_iadd (pc' := 330) (v := v15) kc_195_329 rfl ev15 ?_
      refine xi_ialoadO (pc' := 331) (v := a16) kc_195_330 rfl (by decide) hov0 (xi_in (by omega) (by omega)) ea16 ?_
      obtain ⟨u761, u762, u763, u764, u765, u766, u767, u768, u769, u770, u771, u772, u773, bu761, bu762, bu763, bu764, bu765, bu766, bu767, bu768, bu769, bu770, bu771, bu772, bu773, A774⟩ := xq_115 K.1
      have A775 := ((eh759.2.1 115 (by decide)).trans A774)
      refine xi_virtual (mj := 16) (as := [.int a12, .int a14, .int a16]) (st1 := [.int 1000000002]) (lv0 := [(0, .ref 115), (1, .int a12), (2, .int a14), (3, .int a16)]) kc_195_331 rfl rfl rfl rfl rfl A775 (Nat.le_of_ble_eq_true rfl) (hJ _ _ _ _ (by decide)) (xm_le ml_16 rfl) rfl ?_
      refine xi_aload_n (pc' := 1) (x := 115) kc_16_0 rfl rfl ?_
      refine xi_iconst (pc' := 2) (v := 0) kc_16_1 rfl rfl ?_
      refine xi_putfield (pc' := 5) (fs' := [.int 0, .int u762, .ref 116, .ref 117, .ref 118, .ref 119, .ref 120, .ref 121, .ref 122, .ref 123, .ref 124, .ref 125, .ref 126, .ref 127, .ref 128, .ref 129, .int u763, .ref 130, .int u764, .ref 131, .ref 132, .ref 133, .ref 134, .int u765, .ref 135, .ref 136, .ref 137, .ref 138, .ref 139, .ref 140, .ref 141, .ref 142, .int u766, .int u767, .int u768, .ref 143, .ref 144, .ref 145, .ref 146, .ref 147, .ref 148, .int u769, .ref 149, .ref 150, .ref 151, .int u770, .ref 152, .ref 153, .ref 154, .ref 155, .ref 156, .ref 157, .ref 158, .ref 159, .int u771, .ref 160, .int u772, .ref 161, .ref 162, .ref 163, .ref 164, .int u773, .ref 165, .ref 166]) kc_16_2 rfl rfl rfl A775 rfl rfl rfl (Nat.le_of_ble_eq_true rfl) rfl (fun hh777 eh776 => ?_)
      have K778 := xk_pf (k := 0) (v := 0) K760 (xk_wf rfl) xD_115 A775 rfl (by first | omega | decide) (by first | omega | decide) eh776 rfl
      refine xi_iload_n (pc' := 6) (x := a14) kc_16_5 rfl rfl ?_
      refine xi_iconst (pc' := 7) (v := 0) kc_16_6 rfl rfl ?_
      refine xi_iconst (pc' := 8) (v := 1) kc_16_7 rfl rfl ?_
      refine xi_static (mj := 11) (as := [.int a14, .int 0, .int 1]) (st1 := []) (lv0 := [(0, .int a14), (1, .int 0), (2, .int 1)]) kc_16_8 rfl rfl (Nat.le_of_ble_eq_true rfl) rfl rfl (Nat.le_of_ble_eq_true rfl) (hJ _ _ _ _ (by decide)) (xm_le ml_11 rfl) rfl ?_
      refine xi_iload_n (pc' := 1) (x := a14) kc_11_0 rfl rfl ?_
      refine xi_iload_n (pc' := 2) (x := 0) kc_11_1 rfl rfl ?_
      by_cases c779 : a14.toInt < 0
      · refine xi_cmt (pc' := 14) kc_11_2 rfl (xc_lt_t (X := a14.toInt) (Y := 0) rfl (by decide) (by omega)) ?_
        refine xi_iconst (pc' := 15) (v := 0) kc_11_14 rfl rfl ?_
        refine xi_ireturn kc_11_15 mr_11 rfl ?_
        show xw J ov 99 16 (11, [(0, .ref 115), (1, .int a12), (2, .int a14), (3, .int a16)], [.int 0], hh777) _
        refine xi_iff (pc' := 14) kc_16_11 rfl rfl ?_
        refine xi_aload_n (pc' := 15) (x := 115) kc_16_14 rfl rfl ?_
        refine xi_bipush (pc' := 17) (v := (-2)) kc_16_15 rfl rfl ?_
        refine xi_virtual (mj := 17) (as := [.int (-2)]) (st1 := []) (lv0 := [(0, .ref 115), (1, .int (-2))]) kc_16_17 rfl rfl rfl rfl rfl eh776.1 (Nat.le_of_ble_eq_true rfl) (hJ _ _ _ _ (by decide)) (xm_le ml_17 rfl) rfl ?_
        refine xi_aload_n (pc' := 1) (x := 115) kc_17_0 rfl rfl ?_
        refine xi_getfield (pc' := 4) (v := .ref 140) kc_17_1 rfl rfl rfl eh776.1 rfl ?_
        refine xi_iload_n (pc' := 5) (x := (-2)) kc_17_4 rfl rfl ?_
        refine xi_ineg (pc' := 6) (v := 2) kc_17_5 rfl rfl ?_
        refine xi_dup2 (pc' := 7) kc_17_6 rfl ⟨rfl, rfl⟩ ?_
        obtain ⟨y780, A780, hy780, ry780⟩ := xk_arr K.1 xD_140
        obtain ⟨v781, ev781, bv781, dv781⟩ := xj_get hy780 ry780 (i := 2) (by decide) (by decide)
        have A782 := ((eh776.2.1 140 (by decide)).trans ((eh759.2.1 140 (by decide)).trans A780))
        refine xi_iaload (pc' := 8) (v := v781) kc_17_7 rfl A782 (by decide) rfl (xi_in (by decide) (by rw [hy780]; decide)) ev781 ?_
        refine xi_iconst (pc' := 9) (v := 1) kc_17_8 rfl rfl ?_
        obtain ⟨v783, ev783⟩ : ∃ q : Int32, (v781 : Int32) + 1 = q := ⟨_, rfl⟩
        have rv783 := xc_rng v783
        refine xi_iadd (pc' := 10) (v := v783) kc_17_9 rfl ev783 ?_
        obtain ⟨y784, s784, hy784, ry784⟩ := xj_set (v := v783) hy780 ry780 2 (by first | omega | decide) (by first | omega | decide)
        refine xi_iastore (pc' := 11) (x' := y784) kc_17_10 rfl A782 rfl (xi_in (by decide) (by rw [hy780]; decide)) s784 (fun hh784 eh784 => ?_)
        have K785 := xk_pa K778 (xk_wa rfl) xD_140 hy784 ry784 eh784
        refine xi_ldc (pc' := 13) (v := 1000000000) kc_17_11 rfl rfl ?_
        refine xi_iload_n (pc' := 14) (x := (-2)) kc_17_13 rfl rfl ?_
        refine xi_isub (pc' := 15) (v := 1000000002) kc_17_14 rfl rfl ?_
        refine xi_ireturn kc_17_15 mr_17 rfl ?_
        show xw J ov 99 16 (20, [(0, .ref 115), (1, .int a12), (2, .int a14), (3, .int a16)], [.int 1000000002], hh784) _
        refine xi_ireturn kc_16_20 mr_16 rfl ?_
        show xw J ov 100 195 (334, [(4, .int x4), (3, .ref 167), (2, .ref 115), (1, .ref 0), (0, .ref 1000000)], [.int 1000000002, .int 1000000002], hh784) _
        refine xi_cmt (pc' := 1501) kc_195_334 rfl rfl ?_
        obtain ⟨v786, ev786⟩ : ∃ q : Int32, x4 + 6 = q := ⟨_, rfl⟩
        have zv786 : v786.toInt = (x4.toInt + 6) := by rw [← ev786]; exact (xz_add (X := x4.toInt) (Y := 6) rfl (by decide) (by omega) (by omega)).trans (by omega)
        refine xi_iinc (pc' := 1504) (x := x4) (v := v786) (lv' := [(4, .int v786), (3, .ref 167), (2, .ref 115), (1, .ref 0), (0, .ref 1000000)]) kc_195_1501 rfl rfl ev786 rfl (xm_lt ml_195 rfl) ?_
        refine xi_goto (pc' := 23) kc_195_1504 rfl ?_
        have A787 := ((eh784.2.1 6 (by decide)).trans ((eh776.2.1 6 (by decide)).trans ((eh759.2.1 6 (by decide)).trans A1)))
        have A788 := ((eh784.2.1 123 (by decide)).trans ((eh776.2.1 123 (by decide)).trans ((eh759.2.1 123 (by decide)).trans A2)))
        have A789 := ((eh784.2.1 9 (by decide)).trans ((eh776.2.1 9 (by decide)).trans ((eh759.2.1 9 (by decide)).trans A3)))
        have A790 := ((eh784.2.1 124 (by decide)).trans ((eh776.2.1 124 (by decide)).trans ((eh759.2.1 124 (by decide)).trans A4)))
        have A791 := ((eh784.2.1 7 (by decide)).trans ((eh776.2.1 7 (by decide)).trans ((eh759.2.1 7 (by decide)).trans A5)))
        have A792 := ((eh784.2.1 10 (by decide)).trans ((eh776.2.1 10 (by decide)).trans ((eh759.2.1 10 (by decide)).trans A6)))
        have A793 := ((eh784.2.1 5 (by decide)).trans ((eh776.2.1 5 (by decide)).trans ((eh759.2.1 5 (by decide)).trans A8)))
        have A794 := ((eh784.2.1 8 (by decide)).trans ((eh776.2.1 8 (by decide)).trans ((eh759.2.1 8 (by decide)).trans A10)))
        exact kk v786 hh784 (by omega) K785 ⟨(xE_mk A787 A788 H0), (xE_mk A789 A790 H1), (xL_mk A791 A787 H2), (xL_mk A792 A789 H3), (xl_of A793 rfl), (xl_of A794 rfl)⟩
      · refine xi_cmf (pc' := 5) kc_11_2 rfl (xc_lt_f (X := a14.toInt) (Y := 0) rfl (by decide) (by omega)) ?_
        refine xi_iload_n (pc' := 6) (x := a14) kc_11_5 rfl rfl ?_
        refine xi_iload_n (pc' := 7) (x := 1) kc_11_6 rfl rfl ?_
        refine xi_cmt (pc' := 14) kc_11_7 rfl (xc_gt_t (X := a14.toInt) (Y := 1) rfl (by decide) (by omega)) ?_
        refine xi_iconst (pc' := 15) (v := 0) kc_11_14 rfl rfl ?_
        refine xi_ireturn kc_11_15 mr_11 rfl ?_
        show xw J ov 99 16 (11, [(0, .ref 115), (1, .int a12), (2, .int a14), (3, .int a16)], [.int 0], hh777) _
        refine xi_iff (pc' := 14) kc_16_11 rfl rfl ?_
        refine xi_aload_n (pc' := 15) (x := 115) kc_16_14 rfl rfl ?_
        refine xi_bipush (pc' := 17) (v := (-2)) kc_16_15 rfl rfl ?_
        refine xi_virtual (mj := 17) (as := [.int (-2)]) (st1 := []) (lv0 := [(0, .ref 115), (1, .int (-2))]) kc_16_17 rfl rfl rfl rfl rfl eh776.1 (Nat.le_of_ble_eq_true rfl) (hJ _ _ _ _ (by decide)) (xm_le ml_17 rfl) rfl ?_
        refine xi_aload_n (pc' := 1) (x := 115) kc_17_0 rfl rfl ?_
        refine xi_getfield (pc' := 4) (v := .ref 140) kc_17_1 rfl rfl rfl eh776.1 rfl ?_
        refine xi_iload_n (pc' := 5) (x := (-2)) kc_17_4 rfl rfl ?_
        refine xi_ineg (pc' := 6) (v := 2) kc_17_5 rfl rfl ?_
        refine xi_dup2 (pc' := 7) kc_17_6 rfl ⟨rfl, rfl⟩ ?_
        obtain ⟨y795, A795, hy795, ry795⟩ := xk_arr K.1 xD_140
        obtain ⟨v796, ev796, bv796, dv796⟩ := xj_get hy795 ry795 (i := 2) (by decide) (by decide)
        have A797 := ((eh776.2.1 140 (by decide)).trans ((eh759.2.1 140 (by decide)).trans A795))
        refine xi_iaload (pc' := 8) (v := v796) kc_17_7 rfl A797 (by decide) rfl (xi_in (by decide) (by rw [hy795]; decide)) ev796 ?_
        refine xi_iconst (pc' := 9) (v := 1) kc_17_8 rfl rfl ?_
        obtain ⟨v798, ev798⟩ : ∃ q : Int32, (v796 : Int32) + 1 = q := ⟨_, rfl⟩
        have rv798 := xc_rng v798
        refine xi_iadd (pc' := 10) (v := v798) kc_17_9 rfl ev798 ?_
        obtain ⟨y799, s799, hy799, ry799⟩ := xj_set (v := v798) hy795 ry795 2 (by first | omega | decide) (by first | omega | decide)
        refine xi_iastore (pc' := 11) (x' := y799) kc_17_10 rfl A797 rfl (xi_in (by decide) (by rw [hy795]; decide)) s799 (fun hh799 eh799 => ?_)
        have K800 := xk_pa K778 (xk_wa rfl) xD_140 hy799 ry799 eh799
        refine xi_ldc (pc' := 13) (v := 1000000000) kc_17_11 rfl rfl ?_
        refine xi_iload_n (pc' := 14) (x := (-2)) kc_17_13 rfl rfl ?_
        refine xi_isub (pc' := 15) (v := 1000000002) kc_17_14 rfl rfl ?_
        refine xi_ireturn kc_17_15 mr_17 rfl ?_
        show xw J ov 99 16 (20, [(0, .ref 115), (1, .int a12), (2, .int a14), (3, .int a16)], [.int 1000000002], hh799) _
        refine xi_ireturn kc_16_20 mr_16 rfl ?_
        show xw J ov 100 195 (334, [(4, .int x4), (3, .ref 167), (2, .ref 115), (1, .ref 0), (0, .ref 1000000)], [.int 1000000002, .int 1000000002], hh799) _
        refine xi_cmt (pc' := 1501) kc_195_334 rfl rfl ?_
        obtain ⟨v801, ev801⟩ : ∃ q : Int32, x4 + 6 = q := ⟨_, rfl⟩
        have zv801 : v801.toInt = (x4.toInt + 6) := by rw [← ev801]; exact (xz_add (X := x4.toInt) (Y := 6) rfl (by decide) (by omega) (by omega)).trans (by omega)
        refine xi_iinc (pc' := 1504) (x := x4) (v := v801) (lv' := [(4, .int v801), (3, .ref 167), (2, .ref 115), (1, .ref 0), (0, .ref 1000000)]) kc_195_1501 rfl rfl ev801 rfl (xm_lt ml_195 rfl) ?_
        refine xi_goto (pc' := 23) kc_195_1504 rfl ?_
        have A802 := ((eh799.2.1 6 (by decide)).trans ((eh776.2.1 6 (by decide)).trans ((eh759.2.1 6 (by decide)).trans A1)))
        have A803 := ((eh799.2.1 123 (by decide)).trans ((eh776.2.1 123 (by decide)).trans ((eh759.2.1 123 (by decide)).trans A2)))
        have A804 := ((eh799.2.1 9 (by decide)).trans ((eh776.2.1 9 (by decide)).trans ((eh759.2.1 9 (by decide)).trans A3)))
        have A805 := ((eh799.2.1 124 (by decide)).trans ((eh776.2.1 124 (by decide)).trans ((eh759.2.1 124 (by decide)).trans A4)))
        have A806 := ((eh799.2.1 7 (by decide)).trans ((eh776.2.1 7 (by decide)).trans ((eh759.2.1 7 (by decide)).trans A5)))
        have A807 := ((eh799.2.1 10 (by decide)).trans ((eh776.2.1 10 (by decide)).trans ((eh759.2.1 10 (by decide)).trans A6)))
        have A808 := ((eh799.2.1 5 (by decide)).trans ((eh776.2.1 5 (by decide)).trans ((eh759.2.1 5 (by decide)).trans A8)))
        have A809 := ((eh799.2.1 8 (by decide)).trans ((eh776.2.1 8 (by decide)).trans ((eh759.2.1 8 (by decide)).trans A10)))
        exact kk v801 hh799 (by omega) K800 ⟨(xE_mk A802 A803 H0), (xE_mk A804 A805 H1), (xL_mk A806 A802 H2), (xL_mk A807 A804 H3), (xl_of A808 rfl), (xl_of A809 rfl)⟩
set_option maxHeartbeats 8000000 in
theorem lc_3 {J : xe_J} {ov : List (List Int32)} (hJ : ∀ d mj as h, mj ≠ xe_loff → J d mj as h = none) (hov1 : ov[1]? = some [10, 0, 0, 0, 0, 0]) (hov2 : ov[2]? = some [99, 30, 50, 50, 1, 99999]) {xs : List Int32} (hov0 : ov[0]? = some xs) {Q : Option Value → xe_H → Prop} {h : xe_H} {x4 : Int32} (hi0 : 0 ≤ x4.toInt) (hi1 : x4.toInt + 6 ≤ xs.length) (hi2 : x4.toInt ≤ 3066) (T : xt h) (kk : ∀ (i : Int32) (h' : xe_H), i.toInt = x4.toInt + 6 → xk [(6, 0), (123, 0), (9, 0), (124, 0), (7, 0), (10, 0), (5, 0), (8, 0)] h h' → xw J ov 100 195 (23, [(4, .int i), (3, .ref 167), (2, .ref 115), (1, .ref 0), (0, .ref 1000000)], [], h') Q) : xw J ov 100 195 (339, [(4, .int x4), (3, .ref 167), (2, .ref 115), (1, .ref 0), (0, .ref 1000000)], [], h) Q := by
  have K : xk [(6, 0), (123, 0), (9, 0), (124, 0), (7, 0), (10, 0), (5, 0), (8, 0)] h h := xk_re T
  refine xi_aload_n (pc' := 340) (x := 0) kc_195_339 rfl rfl ?_
  refine xi_aload_n (pc' := 341) (x := 1000000) kc_195_340 rfl rfl ?_
  refine xi_iload (pc' := 343) (x := x4) kc_195_341 rfl rfl ?_
  refine xi_iconst (pc' := 344) (v := 1) kc_195_343 rfl rfl ?_
  obtain ⟨v1, ev1⟩ : ∃ q : Int32, x4 + 1 = q := ⟨_, rfl⟩
  have zv1 : v1.toInt = (x4.toInt + 1) := by rw [← ev1]; exact (xz_add (X := x4.toInt) (Y := 1) rfl (by decide) (by omega) (by omega)).trans (by omega)
  refine xi_iadd (pc' := 345) (v := v1) kc_195_344 rfl ev1 ?_
  obtain ⟨a2, ea2⟩ : ∃ q : Int32, xs.getD (Int32.toNatClampNeg v1) 0 = q := ⟨_, rfl⟩
  have ra2 := xc_rng a2
  refine xi_ialoadO (pc' := 346) (v := a2) kc_195_345 rfl (by decide) hov0 (xi_in (by omega) (by omega)) ea2 ?_
  refine xi_aload_n (pc' := 347) (x := 1000000) kc_195_346 rfl rfl ?_
  refine xi_iload (pc' := 349) (x := x4) kc_195_347 rfl rfl ?_
  refine xi_iconst (pc' := 350) (v := 2) kc_195_349 rfl rfl ?_
  obtain ⟨v3, ev3⟩ : ∃ q : Int32, x4 + 2 = q := ⟨_, rfl⟩
  have zv3 : v3.toInt = (x4.toInt + 2) := by rw [← ev3]; exact (xz_add (X := x4.toInt) (Y := 2) rfl (by decide) (by omega) (by omega)).trans (by omega)
  refine xi_iadd (pc' := 351) (v := v3) kc_195_350 rfl ev3 ?_
  obtain ⟨a4, ea4⟩ : ∃ q : Int32, xs.getD (Int32.toNatClampNeg v3) 0 = q := ⟨_, rfl⟩
  have ra4 := xc_rng a4
  refine xi_ialoadO (pc' := 352) (v := a4) kc_195_351 rfl (by decide) hov0 (xi_in (by omega) (by omega)) ea4 ?_
  obtain ⟨u5, u6, bu5, bu6, A7⟩ := xq_0 K.1
  refine xi_virtual (mj := 100) (as := [.int a2, .int a4]) (st1 := []) (lv0 := [(0, .ref 0), (1, .int a2), (2, .int a4)]) kc_195_352 rfl rfl rfl rfl rfl A7 (Nat.le_of_ble_eq_true rfl) (hJ _ _ _ _ (by decide)) (xm_le ml_100 rfl) rfl ?_
  refine mt_100_0 hJ hov1 hov2 (d := 97) (x1 := a2) (x2 := a4) K.1 (fun r8 hh9 K10 => ?_)
  have br8 := xc_rng r8
  have K11 := xk_tr K K10 rfl
  obtain ⟨u12, u13, bu12, bu13, A14⟩ := xq_0 K11.1
  have e15 : u6 = u13 := xk_eqi (q := 9) K10 rfl A7 A14 rfl rfl
  subst e15
  show xw J ov 100 195 (355, [(4, .int x4), (3, .ref 167), (2, .ref 115), (1, .ref 0), (0, .ref 1000000)], [.int r8], hh9) _
  refine xi_pop (pc' := 356) kc_195_355 rfl rfl ?_
  refine xi_aload_n (pc' := 357) (x := 115) kc_195_356 rfl rfl ?_
  refine xi_aload_n (pc' := 358) (x := 1000000) kc_195_357 rfl rfl ?_
  refine xi_iload (pc' := 360) (x := x4) kc_195_358 rfl rfl ?_
  refine xi_iconst (pc' := 361) (v := 1) kc_195_360 rfl rfl ?_
  refine xi_iadd (pc' := 362) (v := v1) kc_195_361 rfl ev1 ?_
  refine xi_ialoadO (pc' := 363) (v := a2) kc_195_362 rfl (by decide) hov0 (xi_in (by omega) (by omega)) ea2 ?_
  refine xi_aload_n (pc' := 364) (x := 1000000) kc_195_363 rfl rfl ?_
  refine xi_iload (pc' := 366) (x := x4) kc_195_364 rfl rfl ?_
  refine xi_iconst (pc' := 367) (v := 2) kc_195_366 rfl rfl ?_
  refine xi_iadd (pc' := 368) (v := v3) kc_195_367 rfl ev3 ?_
  refine xi_ialoadO (pc' := 369) (v := a4) kc_195_368 rfl (by decide) hov0 (xi_in (by omega) (by omega)) ea4 ?_
  obtain ⟨u16, u17, u18, u19, u20, u21, u22, u23, u24, u25, u26, u27, u28, bu16, bu17, bu18, bu19, bu20, bu21, bu22, bu23, bu24, bu25, bu26, bu27, bu28, A29⟩ := xq_115 K11.1
  refine xi_virtual (mj := 18) (as := [.int a2, .int a4]) (st1 := []) (lv0 := [(0, .ref 115), (1, .int a2), (2, .int a4)]) kc_195_369 rfl rfl rfl rfl rfl A29 (Nat.le_of_ble_eq_true rfl) (hJ _ _ _ _ (by decide)) (xm_le ml_18 rfl) rfl ?_
  refine mt_18_0 hJ hov1 hov2 (d := 97) (x1 := a2) (x2 := a4) K11.1 (fun r30 hh31 K32 => ?_)
  have br30 := xc_rng r30
  have K33 := xk_tr K11 K32 rfl
  obtain ⟨u34, u35, bu34, bu35, A36⟩ := xq_0 K33.1
  have e37 : u6 = u35 := xk_eqi (q := 9) K32 rfl A14 A36 rfl rfl
  subst e37
  obtain ⟨u38, u39, u40, u41, u42, u43, u44, u45, u46, u47, u48, u49, u50, bu38, bu39, bu40, bu41, bu42, bu43, bu44, bu45, bu46, bu47, bu48, bu49, bu50, A51⟩ := xq_115 K33.1
  have e52 : u17 = u39 := xk_eqi (q := 1) K32 rfl A29 A51 rfl rfl
  subst e52
  show xw J ov 100 195 (372, [(4, .int x4), (3, .ref 167), (2, .ref 115), (1, .ref 0), (0, .ref 1000000)], [.int r30], hh31) _
  refine xi_pop (pc' := 373) kc_195_372 rfl rfl ?_
  refine xi_goto (pc' := 1501) kc_195_373 rfl ?_
  obtain ⟨v53, ev53⟩ : ∃ q : Int32, x4 + 6 = q := ⟨_, rfl⟩
  have zv53 : v53.toInt = (x4.toInt + 6) := by rw [← ev53]; exact (xz_add (X := x4.toInt) (Y := 6) rfl (by decide) (by omega) (by omega)).trans (by omega)
  refine xi_iinc (pc' := 1504) (x := x4) (v := v53) (lv' := [(4, .int v53), (3, .ref 167), (2, .ref 115), (1, .ref 0), (0, .ref 1000000)]) kc_195_1501 rfl rfl ev53 rfl (xm_lt ml_195 rfl) ?_
  refine xi_goto (pc' := 23) kc_195_1504 rfl ?_
  exact kk v53 hh31 (by omega) K33
set_option maxHeartbeats 8000000 in
theorem lc_4 {J : xe_J} {ov : List (List Int32)} (hJ : ∀ d mj as h, mj ≠ xe_loff → J d mj as h = none) (hov1 : ov[1]? = some [10, 0, 0, 0, 0, 0]) (hov2 : ov[2]? = some [99, 30, 50, 50, 1, 99999]) {xs : List Int32} (hov0 : ov[0]? = some xs) {Q : Option Value → xe_H → Prop} {h : xe_H} {x4 : Int32} (hi0 : 0 ≤ x4.toInt) (hi1 : x4.toInt + 6 ≤ xs.length) (hi2 : x4.toInt ≤ 3066) (T : xt h) (kk : ∀ (i : Int32) (h' : xe_H), i.toInt = x4.toInt + 6 → xk [(6, 0), (123, 0), (9, 0), (124, 0), (7, 0), (10, 0), (5, 0), (8, 0)] h h' → xw J ov 100 195 (23, [(4, .int i), (3, .ref 167), (2, .ref 115), (1, .ref 0), (0, .ref 1000000)], [], h') Q) : xw J ov 100 195 (376, [(4, .int x4), (3, .ref 167), (2, .ref 115), (1, .ref 0), (0, .ref 1000000)], [], h) Q := by
  have K : xk [(6, 0), (123, 0), (9, 0), (124, 0), (7, 0), (10, 0), (5, 0), (8, 0)] h h := xk_re T
  refine xi_aload_n (pc' := 377) (x := 0) kc_195_376 rfl rfl ?_
  refine xi_aload_n (pc' := 378) (x := 1000000) kc_195_377 rfl rfl ?_
  refine xi_iload (pc' := 380) (x := x4) kc_195_378 rfl rfl ?_
  refine xi_iconst (pc' := 381) (v := 1) kc_195_380 rfl rfl ?_
  obtain ⟨v1, ev1⟩ : ∃ q : Int32, x4 + 1 = q := ⟨_, rfl⟩
  have zv1 : v1.toInt = (x4.toInt + 1) := by rw [← ev1]; exact (xz_add (X := x4.toInt) (Y := 1) rfl (by decide) (by omega) (by omega)).trans (by omega)
  refine xi_iadd (pc' := 382) (v := v1) kc_195_381 rfl ev1 ?_
  obtain ⟨a2, ea2⟩ : ∃ q : Int32, xs.getD (Int32.toNatClampNeg v1) 0 = q := ⟨_, rfl⟩
  have ra2 := xc_rng a2
  refine xi_ialoadO (pc' := 383) (v := a2) kc_195_382 rfl (by decide) hov0 (xi_in (by omega) (by omega)) ea2 ?_
  obtain ⟨u3, u4, bu3, bu4, A5⟩ := xq_0 K.1
  refine xi_virtual (mj := 101) (as := [.int a2]) (st1 := []) (lv0 := [(0, .ref 0), (1, .int a2)]) kc_195_383 rfl rfl rfl rfl rfl A5 (Nat.le_of_ble_eq_true rfl) (hJ _ _ _ _ (by decide)) (xm_le ml_101 rfl) rfl ?_
  refine mt_101_0 hJ hov1 hov2 (d := 96) (x1 := a2) K.1 (fun r6 hh7 br6 K8 => ?_)
  have K9 := xk_tr K K8 rfl
  obtain ⟨u10, u11, bu10, bu11, A12⟩ := xq_0 K9.1
  have e13 : u4 = u11 := xk_eqi (q := 9) K8 rfl A5 A12 rfl rfl
  subst e13
  show xw J ov 100 195 (386, [(4, .int x4), (3, .ref 167), (2, .ref 115), (1, .ref 0), (0, .ref 1000000)], [.int r6], hh7) _
  refine xi_pop (pc' := 387) kc_195_386 rfl rfl ?_
  refine xi_aload_n (pc' := 388) (x := 115) kc_195_387 rfl rfl ?_
  refine xi_aload_n (pc' := 389) (x := 1000000) kc_195_388 rfl rfl ?_
  refine xi_iload (pc' := 391) (x := x4) kc_195_389 rfl rfl ?_
  refine xi_iconst (pc' := 392) (v := 1) kc_195_391 rfl rfl ?_
  refine xi_iadd (pc' := 393) (v := v1) kc_195_392 rfl ev1 ?_
  refine xi_ialoadO (pc' := 394) (v := a2) kc_195_393 rfl (by decide) hov0 (xi_in (by omega) (by omega)) ea2 ?_
  obtain ⟨u14, u15, u16, u17, u18, u19, u20, u21, u22, u23, u24, u25, u26, bu14, bu15, bu16, bu17, bu18, bu19, bu20, bu21, bu22, bu23, bu24, bu25, bu26, A27⟩ := xq_115 K9.1
  refine xi_virtual (mj := 21) (as := [.int a2]) (st1 := []) (lv0 := [(0, .ref 115), (1, .int a2)]) kc_195_394 rfl rfl rfl rfl rfl A27 (Nat.le_of_ble_eq_true rfl) (hJ _ _ _ _ (by decide)) (xm_le ml_21 rfl) rfl ?_
  refine mt_21_0 hJ hov1 hov2 (d := 97) (x1 := a2) K9.1 (fun r28 hh29 br28 K30 => ?_)
  have K31 := xk_tr K9 K30 rfl
  obtain ⟨u32, u33, bu32, bu33, A34⟩ := xq_0 K31.1
  have e35 : u4 = u33 := xk_eqi (q := 9) K30 rfl A12 A34 rfl rfl
  subst e35
  obtain ⟨u36, u37, u38, u39, u40, u41, u42, u43, u44, u45, u46, u47, u48, bu36, bu37, bu38, bu39, bu40, bu41, bu42, bu43, bu44, bu45, bu46, bu47, bu48, A49⟩ := xq_115 K31.1
  have e50 : u15 = u37 := xk_eqi (q := 1) K30 rfl A27 A49 rfl rfl
  subst e50
  show xw J ov 100 195 (397, [(4, .int x4), (3, .ref 167), (2, .ref 115), (1, .ref 0), (0, .ref 1000000)], [.int r28], hh29) _
  refine xi_pop (pc' := 398) kc_195_397 rfl rfl ?_
  refine xi_goto (pc' := 1501) kc_195_398 rfl ?_
  obtain ⟨v51, ev51⟩ : ∃ q : Int32, x4 + 6 = q := ⟨_, rfl⟩
  have zv51 : v51.toInt = (x4.toInt + 6) := by rw [← ev51]; exact (xz_add (X := x4.toInt) (Y := 6) rfl (by decide) (by omega) (by omega)).trans (by omega)
  refine xi_iinc (pc' := 1504) (x := x4) (v := v51) (lv' := [(4, .int v51), (3, .ref 167), (2, .ref 115), (1, .ref 0), (0, .ref 1000000)]) kc_195_1501 rfl rfl ev51 rfl (xm_lt ml_195 rfl) ?_
  refine xi_goto (pc' := 23) kc_195_1504 rfl ?_
  exact kk v51 hh29 (by omega) K31
set_option maxHeartbeats 8000000 in
theorem lc_5 {J : xe_J} {ov : List (List Int32)} (hJ : ∀ d mj as h, mj ≠ xe_loff → J d mj as h = none) (hov1 : ov[1]? = some [10, 0, 0, 0, 0, 0]) (hov2 : ov[2]? = some [99, 30, 50, 50, 1, 99999]) {xs : List Int32} (hov0 : ov[0]? = some xs) {Q : Option Value → xe_H → Prop} {h : xe_H} {x4 : Int32} (hi0 : 0 ≤ x4.toInt) (hi1 : x4.toInt + 6 ≤ xs.length) (hi2 : x4.toInt ≤ 3066) (T : xt h) (kk : ∀ (i : Int32) (h' : xe_H), i.toInt = x4.toInt + 6 → xk [(6, 0), (123, 0), (9, 0), (124, 0), (7, 0), (10, 0), (5, 0), (8, 0)] h h' → xw J ov 100 195 (23, [(4, .int i), (3, .ref 167), (2, .ref 115), (1, .ref 0), (0, .ref 1000000)], [], h') Q) : xw J ov 100 195 (401, [(4, .int x4), (3, .ref 167), (2, .ref 115), (1, .ref 0), (0, .ref 1000000)], [], h) Q := by
  have K : xk [(6, 0), (123, 0), (9, 0), (124, 0), (7, 0), (10, 0), (5, 0), (8, 0)] h h := xk_re T
  refine xi_aload_n (pc' := 402) (x := 0) kc_195_401 rfl rfl ?_
  refine xi_aload_n (pc' := 403) (x := 1000000) kc_195_402 rfl rfl ?_
  refine xi_iload (pc' := 405) (x := x4) kc_195_403 rfl rfl ?_
  refine xi_iconst (pc' := 406) (v := 1) kc_195_405 rfl rfl ?_
  obtain ⟨v1, ev1⟩ : ∃ q : Int32, x4 + 1 = q := ⟨_, rfl⟩
  have zv1 : v1.toInt = (x4.toInt + 1) := by rw [← ev1]; exact (xz_add (X := x4.toInt) (Y := 1) rfl (by decide) (by omega) (by omega)).trans (by omega)
  refine xi_iadd (pc' := 407) (v := v1) kc_195_406 rfl ev1 ?_
  obtain ⟨a2, ea2⟩ : ∃ q : Int32, xs.getD (Int32.toNatClampNeg v1) 0 = q := ⟨_, rfl⟩
  have ra2 := xc_rng a2
  refine xi_ialoadO (pc' := 408) (v := a2) kc_195_407 rfl (by decide) hov0 (xi_in (by omega) (by omega)) ea2 ?_
  refine xi_aload_n (pc' := 409) (x := 1000000) kc_195_408 rfl rfl ?_
  refine xi_iload (pc' := 411) (x := x4) kc_195_409 rfl rfl ?_
  refine xi_iconst (pc' := 412) (v := 2) kc_195_411 rfl rfl ?_
  obtain ⟨v3, ev3⟩ : ∃ q : Int32, x4 + 2 = q := ⟨_, rfl⟩
  have zv3 : v3.toInt = (x4.toInt + 2) := by rw [← ev3]; exact (xz_add (X := x4.toInt) (Y := 2) rfl (by decide) (by omega) (by omega)).trans (by omega)
  refine xi_iadd (pc' := 413) (v := v3) kc_195_412 rfl ev3 ?_
  obtain ⟨a4, ea4⟩ : ∃ q : Int32, xs.getD (Int32.toNatClampNeg v3) 0 = q := ⟨_, rfl⟩
  have ra4 := xc_rng a4
  refine xi_ialoadO (pc' := 414) (v := a4) kc_195_413 rfl (by decide) hov0 (xi_in (by omega) (by omega)) ea4 ?_
  refine xi_aload_n (pc' := 415) (x := 1000000) kc_195_414 rfl rfl ?_
  refine xi_iload (pc' := 417) (x := x4) kc_195_415 rfl rfl ?_
  refine xi_iconst (pc' := 418) (v := 3) kc_195_417 rfl rfl ?_
  obtain ⟨v5, ev5⟩ : ∃ q : Int32, x4 + 3 = q := ⟨_, rfl⟩
  have zv5 : v5.toInt = (x4.toInt + 3) := by rw [← ev5]; exact (xz_add (X := x4.toInt) (Y := 3) rfl (by decide) (by omega) (by omega)).trans (by omega)
  refine xi_iadd (pc' := 419) (v := v5) kc_195_418 rfl ev5 ?_
  obtain ⟨a6, ea6⟩ : ∃ q : Int32, xs.getD (Int32.toNatClampNeg v5) 0 = q := ⟨_, rfl⟩
  have ra6 := xc_rng a6
  refine xi_ialoadO (pc' := 420) (v := a6) kc_195_419 rfl (by decide) hov0 (xi_in (by omega) (by omega)) ea6 ?_
  refine xi_aload_n (pc' := 421) (x := 1000000) kc_195_420 rfl rfl ?_
  refine xi_iload (pc' := 423) (x := x4) kc_195_421 rfl rfl ?_
  refine xi_iconst (pc' := 424) (v := 4) kc_195_423 rfl rfl ?_
  obtain ⟨v7, ev7⟩ : ∃ q : Int32, x4 + 4 = q := ⟨_, rfl⟩
  have zv7 : v7.toInt = (x4.toInt + 4) := by rw [← ev7]; exact (xz_add (X := x4.toInt) (Y := 4) rfl (by decide) (by omega) (by omega)).trans (by omega)
  refine xi_iadd (pc' := 425) (v := v7) kc_195_424 rfl ev7 ?_
  obtain ⟨a8, ea8⟩ : ∃ q : Int32, xs.getD (Int32.toNatClampNeg v7) 0 = q := ⟨_, rfl⟩
  have ra8 := xc_rng a8
  refine xi_ialoadO (pc' := 426) (v := a8) kc_195_425 rfl (by decide) hov0 (xi_in (by omega) (by omega)) ea8 ?_
  by_cases c9 : a8.toInt = 0
  · refine xi_ift (pc' := 433) kc_195_426 rfl (xc_eq_t (X := a8.toInt) (Y := 0) rfl (by decide) (by omega)) ?_
    refine xi_iconst (pc' := 434) (v := 0) kc_195_433 rfl rfl ?_
    obtain ⟨u10, u11, bu10, bu11, A12⟩ := xq_0 K.1
    refine xi_virtual (mj := 103) (as := [.int a2, .int a4, .int a6, .int 0]) (st1 := []) (lv0 := [(0, .ref 0), (1, .int a2), (2, .int a4), (3, .int a6), (4, .int 0)]) kc_195_434 rfl rfl rfl rfl rfl A12 (Nat.le_of_ble_eq_true rfl) (hJ _ _ _ _ (by decide)) (xm_le ml_103 rfl) rfl ?_
    have zc0 : (0 : Int32).toInt = 0 := by decide
    refine mt_103_0 hJ hov1 hov2 (d := 97) (x1 := a2) (x2 := a4) (x3 := a6) (x4 := 0) K.1 (by first | omega | decide) (fun r13 hh14 br13 K15 => ?_)
    have K16 := xk_tr K K15 rfl
    obtain ⟨u17, u18, bu17, bu18, A19⟩ := xq_0 K16.1
    have e20 : u11 = u18 := xk_eqi (q := 9) K15 rfl A12 A19 rfl rfl
    subst e20
    show xw J ov 100 195 (437, [(4, .int x4), (3, .ref 167), (2, .ref 115), (1, .ref 0), (0, .ref 1000000)], [.int r13], hh14) _
    refine xi_pop (pc' := 438) kc_195_437 rfl rfl ?_
    refine xi_aload_n (pc' := 439) (x := 115) kc_195_438 rfl rfl ?_
    refine xi_aload_n (pc' := 440) (x := 1000000) kc_195_439 rfl rfl ?_
    refine xi_iload (pc' := 442) (x := x4) kc_195_440 rfl rfl ?_
    refine xi_iconst (pc' := 443) (v := 1) kc_195_442 rfl rfl ?_
    refine xi_iadd (pc' := 444) (v := v1) kc_195_443 rfl ev1 ?_
    refine xi_ialoadO (pc' := 445) (v := a2) kc_195_444 rfl (by decide) hov0 (xi_in (by omega) (by omega)) ea2 ?_
    refine xi_aload_n (pc' := 446) (x := 1000000) kc_195_445 rfl rfl ?_
    refine xi_iload (pc' := 448) (x := x4) kc_195_446 rfl rfl ?_
    refine xi_iconst (pc' := 449) (v := 2) kc_195_448 rfl rfl ?_
    refine xi_iadd (pc' := 450) (v := v3) kc_195_449 rfl ev3 ?_
    refine xi_ialoadO (pc' := 451) (v := a4) kc_195_450 rfl (by decide) hov0 (xi_in (by omega) (by omega)) ea4 ?_
    refine xi_aload_n (pc' := 452) (x := 1000000) kc_195_451 rfl rfl ?_
    refine xi_iload (pc' := 454) (x := x4) kc_195_452 rfl rfl ?_
    refine xi_iconst (pc' := 455) (v := 3) kc_195_454 rfl rfl ?_
    refine xi_iadd (pc' := 456) (v := v5) kc_195_455 rfl ev5 ?_
    refine xi_ialoadO (pc' := 457) (v := a6) kc_195_456 rfl (by decide) hov0 (xi_in (by omega) (by omega)) ea6 ?_
    refine xi_aload_n (pc' := 458) (x := 1000000) kc_195_457 rfl rfl ?_
    refine xi_iload (pc' := 460) (x := x4) kc_195_458 rfl rfl ?_
    refine xi_iconst (pc' := 461) (v := 4) kc_195_460 rfl rfl ?_
    refine xi_iadd (pc' := 462) (v := v7) kc_195_461 rfl ev7 ?_
    refine xi_ialoadO (pc' := 463) (v := a8) kc_195_462 rfl (by decide) hov0 (xi_in (by omega) (by omega)) ea8 ?_
    refine xi_ift (pc' := 470) kc_195_463 rfl (xc_eq_t (X := a8.toInt) (Y := 0) rfl (by decide) (by omega)) ?_
    refine xi_iconst (pc' := 471) (v := 0) kc_195_470 rfl rfl ?_
    obtain ⟨u21, u22, u23, u24, u25, u26, u27, u28, u29, u30, u31, u32, u33, bu21, bu22, bu23, bu24, bu25, bu26, bu27, bu28, bu29, bu30, bu31, bu32, bu33, A34⟩ := xq_115 K16.1
    refine xi_virtual (mj := 23) (as := [.int a2, .int a4, .int a6, .int 0]) (st1 := []) (lv0 := [(0, .ref 115), (1, .int a2), (2, .int a4), (3, .int a6), (4, .int 0)]) kc_195_471 rfl rfl rfl rfl rfl A34 (Nat.le_of_ble_eq_true rfl) (hJ _ _ _ _ (by decide)) (xm_le ml_23 rfl) rfl ?_
    have zc0 : (0 : Int32).toInt = 0 := by decide
    refine mt_23_0 hJ hov1 hov2 (d := 97) (x1 := a2) (x2 := a4) (x3 := a6) (x4 := 0) K16.1 (by first | omega | decide) (fun r35 hh36 br35 K37 => ?_)
    have K38 := xk_tr K16 K37 rfl
    obtain ⟨u39, u40, bu39, bu40, A41⟩ := xq_0 K38.1
    have e42 : u11 = u40 := xk_eqi (q := 9) K37 rfl A19 A41 rfl rfl
    subst e42
    obtain ⟨u43, u44, u45, u46, u47, u48, u49, u50, u51, u52, u53, u54, u55, bu43, bu44, bu45, bu46, bu47, bu48, bu49, bu50, bu51, bu52, bu53, bu54, bu55, A56⟩ := xq_115 K38.1
    have e57 : u22 = u44 := xk_eqi (q := 1) K37 rfl A34 A56 rfl rfl
    subst e57
    show xw J ov 100 195 (474, [(4, .int x4), (3, .ref 167), (2, .ref 115), (1, .ref 0), (0, .ref 1000000)], [.int r35], hh36) _
    refine xi_pop (pc' := 475) kc_195_474 rfl rfl ?_
    refine xi_goto (pc' := 1501) kc_195_475 rfl ?_
    obtain ⟨v58, ev58⟩ : ∃ q : Int32, x4 + 6 = q := ⟨_, rfl⟩
    have zv58 : v58.toInt = (x4.toInt + 6) := by rw [← ev58]; exact (xz_add (X := x4.toInt) (Y := 6) rfl (by decide) (by omega) (by omega)).trans (by omega)
    refine xi_iinc (pc' := 1504) (x := x4) (v := v58) (lv' := [(4, .int v58), (3, .ref 167), (2, .ref 115), (1, .ref 0), (0, .ref 1000000)]) kc_195_1501 rfl rfl ev58 rfl (xm_lt ml_195 rfl) ?_
    refine xi_goto (pc' := 23) kc_195_1504 rfl ?_
    exact kk v58 hh36 (by omega) K38
  · refine xi_iff (pc' := 429) kc_195_426 rfl (xc_eq_f (X := a8.toInt) (Y := 0) rfl (by decide) (by omega)) ?_
    refine xi_iconst (pc' := 430) (v := 1) kc_195_429 rfl rfl ?_
    refine xi_goto (pc' := 434) kc_195_430 rfl ?_
    obtain ⟨u59, u60, bu59, bu60, A61⟩ := xq_0 K.1
    refine xi_virtual (mj := 103) (as := [.int a2, .int a4, .int a6, .int 1]) (st1 := []) (lv0 := [(0, .ref 0), (1, .int a2), (2, .int a4), (3, .int a6), (4, .int 1)]) kc_195_434 rfl rfl rfl rfl rfl A61 (Nat.le_of_ble_eq_true rfl) (hJ _ _ _ _ (by decide)) (xm_le ml_103 rfl) rfl ?_
    have zc1 : (1 : Int32).toInt = 1 := by decide
    refine mt_103_0 hJ hov1 hov2 (d := 97) (x1 := a2) (x2 := a4) (x3 := a6) (x4 := 1) K.1 (by first | omega | decide) (fun r62 hh63 br62 K64 => ?_)
    have K65 := xk_tr K K64 rfl
    obtain ⟨u66, u67, bu66, bu67, A68⟩ := xq_0 K65.1
    have e69 : u60 = u67 := xk_eqi (q := 9) K64 rfl A61 A68 rfl rfl
    subst e69
    show xw J ov 100 195 (437, [(4, .int x4), (3, .ref 167), (2, .ref 115), (1, .ref 0), (0, .ref 1000000)], [.int r62], hh63) _
    refine xi_pop (pc' := 438) kc_195_437 rfl rfl ?_
    refine xi_aload_n (pc' := 439) (x := 115) kc_195_438 rfl rfl ?_
    refine xi_aload_n (pc' := 440) (x := 1000000) kc_195_439 rfl rfl ?_
    refine xi_iload (pc' := 442) (x := x4) kc_195_440 rfl rfl ?_
    refine xi_iconst (pc' := 443) (v := 1) kc_195_442 rfl rfl ?_
    refine xi_iadd (pc' := 444) (v := v1) kc_195_443 rfl ev1 ?_
    refine xi_ialoadO (pc' := 445) (v := a2) kc_195_444 rfl (by decide) hov0 (xi_in (by omega) (by omega)) ea2 ?_
    refine xi_aload_n (pc' := 446) (x := 1000000) kc_195_445 rfl rfl ?_
    refine xi_iload (pc' := 448) (x := x4) kc_195_446 rfl rfl ?_
    refine xi_iconst (pc' := 449) (v := 2) kc_195_448 rfl rfl ?_
    refine xi_iadd (pc' := 450) (v := v3) kc_195_449 rfl ev3 ?_
    refine xi_ialoadO (pc' := 451) (v := a4) kc_195_450 rfl (by decide) hov0 (xi_in (by omega) (by omega)) ea4 ?_
    refine xi_aload_n (pc' := 452) (x := 1000000) kc_195_451 rfl rfl ?_
    refine xi_iload (pc' := 454) (x := x4) kc_195_452 rfl rfl ?_
    refine xi_iconst (pc' := 455) (v := 3) kc_195_454 rfl rfl ?_
    refine xi_iadd (pc' := 456) (v := v5) kc_195_455 rfl ev5 ?_
    refine xi_ialoadO (pc' := 457) (v := a6) kc_195_456 rfl (by decide) hov0 (xi_in (by omega) (by omega)) ea6 ?_
    refine xi_aload_n (pc' := 458) (x := 1000000) kc_195_457 rfl rfl ?_
    refine xi_iload (pc' := 460) (x := x4) kc_195_458 rfl rfl ?_
    refine xi_iconst (pc' := 461) (v := 4) kc_195_460 rfl rfl ?_
    refine xi_iadd (pc' := 462) (v := v7) kc_195_461 rfl ev7 ?_
    refine xi_ialoadO (pc' := 463) (v := a8) kc_195_462 rfl (by decide) hov0 (xi_in (by omega) (by omega)) ea8 ?_
    refine xi_iff (pc' := 466) kc_195_463 rfl (xc_eq_f (X := a8.toInt) (Y := 0) rfl (by decide) (by omega)) ?_
    refine xi_iconst (pc' := 467) (v := 1) kc_195_466 rfl rfl ?_
    refine xi_goto (pc' := 471) kc_195_467 rfl ?_
    obtain ⟨u70, u71, u72, u73, u74, u75, u76, u77, u78, u79, u80, u81, u82, bu70, bu71, bu72, bu73, bu74, bu75, bu76, bu77, bu78, bu79, bu80, bu81, bu82, A83⟩ := xq_115 K65.1
    refine xi_virtual (mj := 23) (as := [.int a2, .int a4, .int a6, .int 1]) (st1 := []) (lv0 := [(0, .ref 115), (1, .int a2), (2, .int a4), (3, .int a6), (4, .int 1)]) kc_195_471 rfl rfl rfl rfl rfl A83 (Nat.le_of_ble_eq_true rfl) (hJ _ _ _ _ (by decide)) (xm_le ml_23 rfl) rfl ?_
    have zc1 : (1 : Int32).toInt = 1 := by decide
    refine mt_23_0 hJ hov1 hov2 (d := 97) (x1 := a2) (x2 := a4) (x3 := a6) (x4 := 1) K65.1 (by first | omega | decide) (fun r84 hh85 br84 K86 => ?_)
    have K87 := xk_tr K65 K86 rfl
    obtain ⟨u88, u89, bu88, bu89, A90⟩ := xq_0 K87.1
    have e91 : u60 = u89 := xk_eqi (q := 9) K86 rfl A68 A90 rfl rfl
    subst e91
    obtain ⟨u92, u93, u94, u95, u96, u97, u98, u99, u100, u101, u102, u103, u104, bu92, bu93, bu94, bu95, bu96, bu97, bu98, bu99, bu100, bu101, bu102, bu103, bu104, A105⟩ := xq_115 K87.1
    have e106 : u71 = u93 := xk_eqi (q := 1) K86 rfl A83 A105 rfl rfl
    subst e106
    show xw J ov 100 195 (474, [(4, .int x4), (3, .ref 167), (2, .ref 115), (1, .ref 0), (0, .ref 1000000)], [.int r84], hh85) _
    refine xi_pop (pc' := 475) kc_195_474 rfl rfl ?_
    refine xi_goto (pc' := 1501) kc_195_475 rfl ?_
    obtain ⟨v107, ev107⟩ : ∃ q : Int32, x4 + 6 = q := ⟨_, rfl⟩
    have zv107 : v107.toInt = (x4.toInt + 6) := by rw [← ev107]; exact (xz_add (X := x4.toInt) (Y := 6) rfl (by decide) (by omega) (by omega)).trans (by omega)
    refine xi_iinc (pc' := 1504) (x := x4) (v := v107) (lv' := [(4, .int v107), (3, .ref 167), (2, .ref 115), (1, .ref 0), (0, .ref 1000000)]) kc_195_1501 rfl rfl ev107 rfl (xm_lt ml_195 rfl) ?_
    refine xi_goto (pc' := 23) kc_195_1504 rfl ?_
    exact kk v107 hh85 (by omega) K87
set_option maxHeartbeats 8000000 in
theorem lc_6 {J : xe_J} {ov : List (List Int32)} (hJ : ∀ d mj as h, mj ≠ xe_loff → J d mj as h = none) (hov1 : ov[1]? = some [10, 0, 0, 0, 0, 0]) (hov2 : ov[2]? = some [99, 30, 50, 50, 1, 99999]) {xs : List Int32} (hov0 : ov[0]? = some xs) {Q : Option Value → xe_H → Prop} {h : xe_H} {x4 : Int32} (hi0 : 0 ≤ x4.toInt) (hi1 : x4.toInt + 6 ≤ xs.length) (hi2 : x4.toInt ≤ 3066) (T : xt h) (kk : ∀ (i : Int32) (h' : xe_H), i.toInt = x4.toInt + 6 → xk [(6, 0), (123, 0), (9, 0), (124, 0), (7, 0), (10, 0), (5, 0), (8, 0)] h h' → xw J ov 100 195 (23, [(4, .int i), (3, .ref 167), (2, .ref 115), (1, .ref 0), (0, .ref 1000000)], [], h') Q) : xw J ov 100 195 (478, [(4, .int x4), (3, .ref 167), (2, .ref 115), (1, .ref 0), (0, .ref 1000000)], [], h) Q := by
  have K : xk [(6, 0), (123, 0), (9, 0), (124, 0), (7, 0), (10, 0), (5, 0), (8, 0)] h h := xk_re T
  refine xi_aload_n (pc' := 479) (x := 0) kc_195_478 rfl rfl ?_
  refine xi_aload_n (pc' := 480) (x := 1000000) kc_195_479 rfl rfl ?_
  refine xi_iload (pc' := 482) (x := x4) kc_195_480 rfl rfl ?_
  refine xi_iconst (pc' := 483) (v := 1) kc_195_482 rfl rfl ?_
  obtain ⟨v1, ev1⟩ : ∃ q : Int32, x4 + 1 = q := ⟨_, rfl⟩
  have zv1 : v1.toInt = (x4.toInt + 1) := by rw [← ev1]; exact (xz_add (X := x4.toInt) (Y := 1) rfl (by decide) (by omega) (by omega)).trans (by omega)
  refine xi_iadd (pc' := 484) (v := v1) kc_195_483 rfl ev1 ?_
  obtain ⟨a2, ea2⟩ : ∃ q : Int32, xs.getD (Int32.toNatClampNeg v1) 0 = q := ⟨_, rfl⟩
  have ra2 := xc_rng a2
  refine xi_ialoadO (pc' := 485) (v := a2) kc_195_484 rfl (by decide) hov0 (xi_in (by omega) (by omega)) ea2 ?_
  refine xi_aload_n (pc' := 486) (x := 1000000) kc_195_485 rfl rfl ?_
  refine xi_iload (pc' := 488) (x := x4) kc_195_486 rfl rfl ?_
  refine xi_iconst (pc' := 489) (v := 2) kc_195_488 rfl rfl ?_
  obtain ⟨v3, ev3⟩ : ∃ q : Int32, x4 + 2 = q := ⟨_, rfl⟩
  have zv3 : v3.toInt = (x4.toInt + 2) := by rw [← ev3]; exact (xz_add (X := x4.toInt) (Y := 2) rfl (by decide) (by omega) (by omega)).trans (by omega)
  refine xi_iadd (pc' := 490) (v := v3) kc_195_489 rfl ev3 ?_
  obtain ⟨a4, ea4⟩ : ∃ q : Int32, xs.getD (Int32.toNatClampNeg v3) 0 = q := ⟨_, rfl⟩
  have ra4 := xc_rng a4
  refine xi_ialoadO (pc' := 491) (v := a4) kc_195_490 rfl (by decide) hov0 (xi_in (by omega) (by omega)) ea4 ?_
  obtain ⟨u5, u6, bu5, bu6, A7⟩ := xq_0 K.1
  refine xi_virtual (mj := 106) (as := [.int a2, .int a4]) (st1 := []) (lv0 := [(0, .ref 0), (1, .int a2), (2, .int a4)]) kc_195_491 rfl rfl rfl rfl rfl A7 (Nat.le_of_ble_eq_true rfl) (hJ _ _ _ _ (by decide)) (xm_le ml_106 rfl) rfl ?_
  refine mt_106_0 hJ hov1 hov2 (d := 95) (x1 := a2) (x2 := a4) K.1 (fun r8 hh9 K10 => ?_)
  have br8 := xc_rng r8
  have K11 := xk_tr K K10 rfl
  obtain ⟨u12, u13, bu12, bu13, A14⟩ := xq_0 K11.1
  have e15 : u6 = u13 := xk_eqi (q := 9) K10 rfl A7 A14 rfl rfl
  subst e15
  show xw J ov 100 195 (494, [(4, .int x4), (3, .ref 167), (2, .ref 115), (1, .ref 0), (0, .ref 1000000)], [.int r8], hh9) _
  refine xi_pop (pc' := 495) kc_195_494 rfl rfl ?_
  refine xi_aload_n (pc' := 496) (x := 115) kc_195_495 rfl rfl ?_
  refine xi_aload_n (pc' := 497) (x := 1000000) kc_195_496 rfl rfl ?_
  refine xi_iload (pc' := 499) (x := x4) kc_195_497 rfl rfl ?_
  refine xi_iconst (pc' := 500) (v := 1) kc_195_499 rfl rfl ?_
  refine xi_iadd (pc' := 501) (v := v1) kc_195_500 rfl ev1 ?_
  refine xi_ialoadO (pc' := 502) (v := a2) kc_195_501 rfl (by decide) hov0 (xi_in (by omega) (by omega)) ea2 ?_
  refine xi_aload_n (pc' := 503) (x := 1000000) kc_195_502 rfl rfl ?_
  refine xi_iload (pc' := 505) (x := x4) kc_195_503 rfl rfl ?_
  refine xi_iconst (pc' := 506) (v := 2) kc_195_505 rfl rfl ?_
  refine xi_iadd (pc' := 507) (v := v3) kc_195_506 rfl ev3 ?_
  refine xi_ialoadO (pc' := 508) (v := a4) kc_195_507 rfl (by decide) hov0 (xi_in (by omega) (by omega)) ea4 ?_
  obtain ⟨u16, u17, u18, u19, u20, u21, u22, u23, u24, u25, u26, u27, u28, bu16, bu17, bu18, bu19, bu20, bu21, bu22, bu23, bu24, bu25, bu26, bu27, bu28, A29⟩ := xq_115 K11.1
  refine xi_virtual (mj := 25) (as := [.int a2, .int a4]) (st1 := []) (lv0 := [(0, .ref 115), (1, .int a2), (2, .int a4)]) kc_195_508 rfl rfl rfl rfl rfl A29 (Nat.le_of_ble_eq_true rfl) (hJ _ _ _ _ (by decide)) (xm_le ml_25 rfl) rfl ?_
  refine mt_25_0 hJ hov1 hov2 (d := 96) (x1 := a2) (x2 := a4) K11.1 (fun r30 hh31 K32 => ?_)
  have br30 := xc_rng r30
  have K33 := xk_tr K11 K32 rfl
  obtain ⟨u34, u35, bu34, bu35, A36⟩ := xq_0 K33.1
  have e37 : u6 = u35 := xk_eqi (q := 9) K32 rfl A14 A36 rfl rfl
  subst e37
  obtain ⟨u38, u39, u40, u41, u42, u43, u44, u45, u46, u47, u48, u49, u50, bu38, bu39, bu40, bu41, bu42, bu43, bu44, bu45, bu46, bu47, bu48, bu49, bu50, A51⟩ := xq_115 K33.1
  have e52 : u17 = u39 := xk_eqi (q := 1) K32 rfl A29 A51 rfl rfl
  subst e52
  show xw J ov 100 195 (511, [(4, .int x4), (3, .ref 167), (2, .ref 115), (1, .ref 0), (0, .ref 1000000)], [.int r30], hh31) _
  refine xi_pop (pc' := 512) kc_195_511 rfl rfl ?_
  refine xi_goto (pc' := 1501) kc_195_512 rfl ?_
  obtain ⟨v53, ev53⟩ : ∃ q : Int32, x4 + 6 = q := ⟨_, rfl⟩
  have zv53 : v53.toInt = (x4.toInt + 6) := by rw [← ev53]; exact (xz_add (X := x4.toInt) (Y := 6) rfl (by decide) (by omega) (by omega)).trans (by omega)
  refine xi_iinc (pc' := 1504) (x := x4) (v := v53) (lv' := [(4, .int v53), (3, .ref 167), (2, .ref 115), (1, .ref 0), (0, .ref 1000000)]) kc_195_1501 rfl rfl ev53 rfl (xm_lt ml_195 rfl) ?_
  refine xi_goto (pc' := 23) kc_195_1504 rfl ?_
  exact kk v53 hh31 (by omega) K33
set_option maxHeartbeats 8000000 in
theorem lc_7 {J : xe_J} {ov : List (List Int32)} (hJ : ∀ d mj as h, mj ≠ xe_loff → J d mj as h = none) (hov1 : ov[1]? = some [10, 0, 0, 0, 0, 0]) (hov2 : ov[2]? = some [99, 30, 50, 50, 1, 99999]) {xs : List Int32} (hov0 : ov[0]? = some xs) {Q : Option Value → xe_H → Prop} {h : xe_H} {x4 : Int32} (hi0 : 0 ≤ x4.toInt) (hi1 : x4.toInt + 6 ≤ xs.length) (hi2 : x4.toInt ≤ 3066) (T : xt h) (kk : ∀ (i : Int32) (h' : xe_H), i.toInt = x4.toInt + 6 → xk [(6, 0), (123, 0), (9, 0), (124, 0), (7, 0), (10, 0), (5, 0), (8, 0)] h h' → xw J ov 100 195 (23, [(4, .int i), (3, .ref 167), (2, .ref 115), (1, .ref 0), (0, .ref 1000000)], [], h') Q) : xw J ov 100 195 (515, [(4, .int x4), (3, .ref 167), (2, .ref 115), (1, .ref 0), (0, .ref 1000000)], [], h) Q := by
  have K : xk [(6, 0), (123, 0), (9, 0), (124, 0), (7, 0), (10, 0), (5, 0), (8, 0)] h h := xk_re T
  refine xi_aload_n (pc' := 516) (x := 0) kc_195_515 rfl rfl ?_
  refine xi_aload_n (pc' := 517) (x := 1000000) kc_195_516 rfl rfl ?_
  refine xi_iload (pc' := 519) (x := x4) kc_195_517 rfl rfl ?_
  refine xi_iconst (pc' := 520) (v := 1) kc_195_519 rfl rfl ?_
  obtain ⟨v1, ev1⟩ : ∃ q : Int32, x4 + 1 = q := ⟨_, rfl⟩
  have zv1 : v1.toInt = (x4.toInt + 1) := by rw [← ev1]; exact (xz_add (X := x4.toInt) (Y := 1) rfl (by decide) (by omega) (by omega)).trans (by omega)
  refine xi_iadd (pc' := 521) (v := v1) kc_195_520 rfl ev1 ?_
  obtain ⟨a2, ea2⟩ : ∃ q : Int32, xs.getD (Int32.toNatClampNeg v1) 0 = q := ⟨_, rfl⟩
  have ra2 := xc_rng a2
  refine xi_ialoadO (pc' := 522) (v := a2) kc_195_521 rfl (by decide) hov0 (xi_in (by omega) (by omega)) ea2 ?_
  obtain ⟨u3, u4, bu3, bu4, A5⟩ := xq_0 K.1
  refine xi_virtual (mj := 110) (as := [.int a2]) (st1 := []) (lv0 := [(0, .ref 0), (1, .int a2)]) kc_195_522 rfl rfl rfl rfl rfl A5 (Nat.le_of_ble_eq_true rfl) (hJ _ _ _ _ (by decide)) (xm_le ml_110 rfl) rfl ?_
  refine mt_110_0 hJ hov1 hov2 (d := 98) (x1 := a2) K.1 (fun r6 hh7 K8 => ?_)
  have br6 := xc_rng r6
  have K9 := xk_tr K K8 rfl
  obtain ⟨u10, u11, bu10, bu11, A12⟩ := xq_0 K9.1
  have e13 : u4 = u11 := xk_eqi (q := 9) K8 rfl A5 A12 rfl rfl
  subst e13
  show xw J ov 100 195 (525, [(4, .int x4), (3, .ref 167), (2, .ref 115), (1, .ref 0), (0, .ref 1000000)], [.int r6], hh7) _
  refine xi_pop (pc' := 526) kc_195_525 rfl rfl ?_
  refine xi_aload_n (pc' := 527) (x := 115) kc_195_526 rfl rfl ?_
  refine xi_aload_n (pc' := 528) (x := 1000000) kc_195_527 rfl rfl ?_
  refine xi_iload (pc' := 530) (x := x4) kc_195_528 rfl rfl ?_
  refine xi_iconst (pc' := 531) (v := 1) kc_195_530 rfl rfl ?_
  refine xi_iadd (pc' := 532) (v := v1) kc_195_531 rfl ev1 ?_
  refine xi_ialoadO (pc' := 533) (v := a2) kc_195_532 rfl (by decide) hov0 (xi_in (by omega) (by omega)) ea2 ?_
  obtain ⟨u14, u15, u16, u17, u18, u19, u20, u21, u22, u23, u24, u25, u26, bu14, bu15, bu16, bu17, bu18, bu19, bu20, bu21, bu22, bu23, bu24, bu25, bu26, A27⟩ := xq_115 K9.1
  refine xi_virtual (mj := 27) (as := [.int a2]) (st1 := []) (lv0 := [(0, .ref 115), (1, .int a2)]) kc_195_533 rfl rfl rfl rfl rfl A27 (Nat.le_of_ble_eq_true rfl) (hJ _ _ _ _ (by decide)) (xm_le ml_27 rfl) rfl ?_
  refine mt_27_0 hJ hov1 hov2 (d := 98) (x1 := a2) K9.1 (fun r28 hh29 K30 => ?_)
  have br28 := xc_rng r28
  have K31 := xk_tr K9 K30 rfl
  obtain ⟨u32, u33, bu32, bu33, A34⟩ := xq_0 K31.1
  have e35 : u4 = u33 := xk_eqi (q := 9) K30 rfl A12 A34 rfl rfl
  subst e35
  obtain ⟨u36, u37, u38, u39, u40, u41, u42, u43, u44, u45, u46, u47, u48, bu36, bu37, bu38, bu39, bu40, bu41, bu42, bu43, bu44, bu45, bu46, bu47, bu48, A49⟩ := xq_115 K31.1
  have e50 : u15 = u37 := xk_eqi (q := 1) K30 rfl A27 A49 rfl rfl
  subst e50
  show xw J ov 100 195 (536, [(4, .int x4), (3, .ref 167), (2, .ref 115), (1, .ref 0), (0, .ref 1000000)], [.int r28], hh29) _
  refine xi_pop (pc' := 537) kc_195_536 rfl rfl ?_
  refine xi_goto (pc' := 1501) kc_195_537 rfl ?_
  obtain ⟨v51, ev51⟩ : ∃ q : Int32, x4 + 6 = q := ⟨_, rfl⟩
  have zv51 : v51.toInt = (x4.toInt + 6) := by rw [← ev51]; exact (xz_add (X := x4.toInt) (Y := 6) rfl (by decide) (by omega) (by omega)).trans (by omega)
  refine xi_iinc (pc' := 1504) (x := x4) (v := v51) (lv' := [(4, .int v51), (3, .ref 167), (2, .ref 115), (1, .ref 0), (0, .ref 1000000)]) kc_195_1501 rfl rfl ev51 rfl (xm_lt ml_195 rfl) ?_
  refine xi_goto (pc' := 23) kc_195_1504 rfl ?_
  exact kk v51 hh29 (by omega) K31
set_option maxHeartbeats 8000000 in
theorem lc_8 {J : xe_J} {ov : List (List Int32)} (hJ : ∀ d mj as h, mj ≠ xe_loff → J d mj as h = none) (hov1 : ov[1]? = some [10, 0, 0, 0, 0, 0]) (hov2 : ov[2]? = some [99, 30, 50, 50, 1, 99999]) {xs : List Int32} (hov0 : ov[0]? = some xs) {Q : Option Value → xe_H → Prop} {h : xe_H} {x4 : Int32} (hi0 : 0 ≤ x4.toInt) (hi1 : x4.toInt + 6 ≤ xs.length) (hi2 : x4.toInt ≤ 3066) (T : xt h) (kk : ∀ (i : Int32) (h' : xe_H), i.toInt = x4.toInt + 6 → xk [(6, 0), (123, 0), (9, 0), (124, 0), (7, 0), (10, 0), (5, 0), (8, 0)] h h' → xw J ov 100 195 (23, [(4, .int i), (3, .ref 167), (2, .ref 115), (1, .ref 0), (0, .ref 1000000)], [], h') Q) : xw J ov 100 195 (540, [(4, .int x4), (3, .ref 167), (2, .ref 115), (1, .ref 0), (0, .ref 1000000)], [], h) Q := by
  have K : xk [(6, 0), (123, 0), (9, 0), (124, 0), (7, 0), (10, 0), (5, 0), (8, 0)] h h := xk_re T
  refine xi_aload_n (pc' := 541) (x := 0) kc_195_540 rfl rfl ?_
  refine xi_aload_n (pc' := 542) (x := 1000000) kc_195_541 rfl rfl ?_
  refine xi_iload (pc' := 544) (x := x4) kc_195_542 rfl rfl ?_
  refine xi_iconst (pc' := 545) (v := 1) kc_195_544 rfl rfl ?_
  obtain ⟨v1, ev1⟩ : ∃ q : Int32, x4 + 1 = q := ⟨_, rfl⟩
  have zv1 : v1.toInt = (x4.toInt + 1) := by rw [← ev1]; exact (xz_add (X := x4.toInt) (Y := 1) rfl (by decide) (by omega) (by omega)).trans (by omega)
  refine xi_iadd (pc' := 546) (v := v1) kc_195_545 rfl ev1 ?_
  obtain ⟨a2, ea2⟩ : ∃ q : Int32, xs.getD (Int32.toNatClampNeg v1) 0 = q := ⟨_, rfl⟩
  have ra2 := xc_rng a2
  refine xi_ialoadO (pc' := 547) (v := a2) kc_195_546 rfl (by decide) hov0 (xi_in (by omega) (by omega)) ea2 ?_
  obtain ⟨u3, u4, bu3, bu4, A5⟩ := xq_0 K.1
  refine xi_virtual (mj := 111) (as := [.int a2]) (st1 := []) (lv0 := [(0, .ref 0), (1, .int a2)]) kc_195_547 rfl rfl rfl rfl rfl A5 (Nat.le_of_ble_eq_true rfl) (hJ _ _ _ _ (by decide)) (xm_le ml_111 rfl) rfl ?_
  refine mt_111_0 hJ hov1 hov2 (d := 98) (x1 := a2) K.1 (fun r6 hh7 K8 => ?_)
  have br6 := xc_rng r6
  have K9 := xk_tr K K8 rfl
  obtain ⟨u10, u11, bu10, bu11, A12⟩ := xq_0 K9.1
  have e13 : u4 = u11 := xk_eqi (q := 9) K8 rfl A5 A12 rfl rfl
  subst e13
  show xw J ov 100 195 (550, [(4, .int x4), (3, .ref 167), (2, .ref 115), (1, .ref 0), (0, .ref 1000000)], [.int r6], hh7) _
  refine xi_pop (pc' := 551) kc_195_550 rfl rfl ?_
  refine xi_aload_n (pc' := 552) (x := 115) kc_195_551 rfl rfl ?_
  refine xi_aload_n (pc' := 553) (x := 1000000) kc_195_552 rfl rfl ?_
  refine xi_iload (pc' := 555) (x := x4) kc_195_553 rfl rfl ?_
  refine xi_iconst (pc' := 556) (v := 1) kc_195_555 rfl rfl ?_
  refine xi_iadd (pc' := 557) (v := v1) kc_195_556 rfl ev1 ?_
  refine xi_ialoadO (pc' := 558) (v := a2) kc_195_557 rfl (by decide) hov0 (xi_in (by omega) (by omega)) ea2 ?_
  obtain ⟨u14, u15, u16, u17, u18, u19, u20, u21, u22, u23, u24, u25, u26, bu14, bu15, bu16, bu17, bu18, bu19, bu20, bu21, bu22, bu23, bu24, bu25, bu26, A27⟩ := xq_115 K9.1
  refine xi_virtual (mj := 28) (as := [.int a2]) (st1 := []) (lv0 := [(0, .ref 115), (1, .int a2)]) kc_195_558 rfl rfl rfl rfl rfl A27 (Nat.le_of_ble_eq_true rfl) (hJ _ _ _ _ (by decide)) (xm_le ml_28 rfl) rfl ?_
  refine mt_28_0 hJ hov1 hov2 (d := 97) (x1 := a2) K9.1 (fun r28 hh29 K30 => ?_)
  have br28 := xc_rng r28
  have K31 := xk_tr K9 K30 rfl
  obtain ⟨u32, u33, bu32, bu33, A34⟩ := xq_0 K31.1
  have e35 : u4 = u33 := xk_eqi (q := 9) K30 rfl A12 A34 rfl rfl
  subst e35
  obtain ⟨u36, u37, u38, u39, u40, u41, u42, u43, u44, u45, u46, u47, u48, bu36, bu37, bu38, bu39, bu40, bu41, bu42, bu43, bu44, bu45, bu46, bu47, bu48, A49⟩ := xq_115 K31.1
  have e50 : u15 = u37 := xk_eqi (q := 1) K30 rfl A27 A49 rfl rfl
  subst e50
  show xw J ov 100 195 (561, [(4, .int x4), (3, .ref 167), (2, .ref 115), (1, .ref 0), (0, .ref 1000000)], [.int r28], hh29) _
  refine xi_pop (pc' := 562) kc_195_561 rfl rfl ?_
  refine xi_goto (pc' := 1501) kc_195_562 rfl ?_
  obtain ⟨v51, ev51⟩ : ∃ q : Int32, x4 + 6 = q := ⟨_, rfl⟩
  have zv51 : v51.toInt = (x4.toInt + 6) := by rw [← ev51]; exact (xz_add (X := x4.toInt) (Y := 6) rfl (by decide) (by omega) (by omega)).trans (by omega)
  refine xi_iinc (pc' := 1504) (x := x4) (v := v51) (lv' := [(4, .int v51), (3, .ref 167), (2, .ref 115), (1, .ref 0), (0, .ref 1000000)]) kc_195_1501 rfl rfl ev51 rfl (xm_lt ml_195 rfl) ?_
  refine xi_goto (pc' := 23) kc_195_1504 rfl ?_
  exact kk v51 hh29 (by omega) K31
set_option maxHeartbeats 8000000 in
theorem lc_9 {J : xe_J} {ov : List (List Int32)} (hJ : ∀ d mj as h, mj ≠ xe_loff → J d mj as h = none) (hov1 : ov[1]? = some [10, 0, 0, 0, 0, 0]) (hov2 : ov[2]? = some [99, 30, 50, 50, 1, 99999]) {xs : List Int32} (hov0 : ov[0]? = some xs) {Q : Option Value → xe_H → Prop} {h : xe_H} {x4 : Int32} (hi0 : 0 ≤ x4.toInt) (hi1 : x4.toInt + 6 ≤ xs.length) (hi2 : x4.toInt ≤ 3066) (T : xt h) (kk : ∀ (i : Int32) (h' : xe_H), i.toInt = x4.toInt + 6 → xk [(6, 0), (123, 0), (9, 0), (124, 0), (7, 0), (10, 0), (5, 0), (8, 0)] h h' → xw J ov 100 195 (23, [(4, .int i), (3, .ref 167), (2, .ref 115), (1, .ref 0), (0, .ref 1000000)], [], h') Q) : xw J ov 100 195 (565, [(4, .int x4), (3, .ref 167), (2, .ref 115), (1, .ref 0), (0, .ref 1000000)], [], h) Q := by
  have K : xk [(6, 0), (123, 0), (9, 0), (124, 0), (7, 0), (10, 0), (5, 0), (8, 0)] h h := xk_re T
  refine xi_aload_n (pc' := 566) (x := 0) kc_195_565 rfl rfl ?_
  refine xi_aload_n (pc' := 567) (x := 1000000) kc_195_566 rfl rfl ?_
  refine xi_iload (pc' := 569) (x := x4) kc_195_567 rfl rfl ?_
  refine xi_iconst (pc' := 570) (v := 1) kc_195_569 rfl rfl ?_
  obtain ⟨v1, ev1⟩ : ∃ q : Int32, x4 + 1 = q := ⟨_, rfl⟩
  have zv1 : v1.toInt = (x4.toInt + 1) := by rw [← ev1]; exact (xz_add (X := x4.toInt) (Y := 1) rfl (by decide) (by omega) (by omega)).trans (by omega)
  refine xi_iadd (pc' := 571) (v := v1) kc_195_570 rfl ev1 ?_
  obtain ⟨a2, ea2⟩ : ∃ q : Int32, xs.getD (Int32.toNatClampNeg v1) 0 = q := ⟨_, rfl⟩
  have ra2 := xc_rng a2
  refine xi_ialoadO (pc' := 572) (v := a2) kc_195_571 rfl (by decide) hov0 (xi_in (by omega) (by omega)) ea2 ?_
  obtain ⟨u3, u4, bu3, bu4, A5⟩ := xq_0 K.1
  refine xi_virtual (mj := 112) (as := [.int a2]) (st1 := []) (lv0 := [(0, .ref 0), (1, .int a2)]) kc_195_572 rfl rfl rfl rfl rfl A5 (Nat.le_of_ble_eq_true rfl) (hJ _ _ _ _ (by decide)) (xm_le ml_112 rfl) rfl ?_
  refine mt_112_0 hJ hov1 hov2 (d := 98) (x1 := a2) K.1 (fun r6 hh7 K8 => ?_)
  have br6 := xc_rng r6
  have K9 := xk_tr K K8 rfl
  obtain ⟨u10, u11, bu10, bu11, A12⟩ := xq_0 K9.1
  have e13 : u4 = u11 := xk_eqi (q := 9) K8 rfl A5 A12 rfl rfl
  subst e13
  show xw J ov 100 195 (575, [(4, .int x4), (3, .ref 167), (2, .ref 115), (1, .ref 0), (0, .ref 1000000)], [.int r6], hh7) _
  refine xi_pop (pc' := 576) kc_195_575 rfl rfl ?_
  refine xi_aload_n (pc' := 577) (x := 115) kc_195_576 rfl rfl ?_
  refine xi_aload_n (pc' := 578) (x := 1000000) kc_195_577 rfl rfl ?_
  refine xi_iload (pc' := 580) (x := x4) kc_195_578 rfl rfl ?_
  refine xi_iconst (pc' := 581) (v := 1) kc_195_580 rfl rfl ?_
  refine xi_iadd (pc' := 582) (v := v1) kc_195_581 rfl ev1 ?_
  refine xi_ialoadO (pc' := 583) (v := a2) kc_195_582 rfl (by decide) hov0 (xi_in (by omega) (by omega)) ea2 ?_
  obtain ⟨u14, u15, u16, u17, u18, u19, u20, u21, u22, u23, u24, u25, u26, bu14, bu15, bu16, bu17, bu18, bu19, bu20, bu21, bu22, bu23, bu24, bu25, bu26, A27⟩ := xq_115 K9.1
  refine xi_virtual (mj := 29) (as := [.int a2]) (st1 := []) (lv0 := [(0, .ref 115), (1, .int a2)]) kc_195_583 rfl rfl rfl rfl rfl A27 (Nat.le_of_ble_eq_true rfl) (hJ _ _ _ _ (by decide)) (xm_le ml_29 rfl) rfl ?_
  refine mt_29_0 hJ hov1 hov2 (d := 97) (x1 := a2) K9.1 (fun r28 hh29 K30 => ?_)
  have br28 := xc_rng r28
  have K31 := xk_tr K9 K30 rfl
  obtain ⟨u32, u33, bu32, bu33, A34⟩ := xq_0 K31.1
  have e35 : u4 = u33 := xk_eqi (q := 9) K30 rfl A12 A34 rfl rfl
  subst e35
  obtain ⟨u36, u37, u38, u39, u40, u41, u42, u43, u44, u45, u46, u47, u48, bu36, bu37, bu38, bu39, bu40, bu41, bu42, bu43, bu44, bu45, bu46, bu47, bu48, A49⟩ := xq_115 K31.1
  have e50 : u15 = u37 := xk_eqi (q := 1) K30 rfl A27 A49 rfl rfl
  subst e50
  show xw J ov 100 195 (586, [(4, .int x4), (3, .ref 167), (2, .ref 115), (1, .ref 0), (0, .ref 1000000)], [.int r28], hh29) _
  refine xi_pop (pc' := 587) kc_195_586 rfl rfl ?_
  refine xi_goto (pc' := 1501) kc_195_587 rfl ?_
  obtain ⟨v51, ev51⟩ : ∃ q : Int32, x4 + 6 = q := ⟨_, rfl⟩
  have zv51 : v51.toInt = (x4.toInt + 6) := by rw [← ev51]; exact (xz_add (X := x4.toInt) (Y := 6) rfl (by decide) (by omega) (by omega)).trans (by omega)
  refine xi_iinc (pc' := 1504) (x := x4) (v := v51) (lv' := [(4, .int v51), (3, .ref 167), (2, .ref 115), (1, .ref 0), (0, .ref 1000000)]) kc_195_1501 rfl rfl ev51 rfl (xm_lt ml_195 rfl) ?_
  refine xi_goto (pc' := 23) kc_195_1504 rfl ?_
  exact kk v51 hh29 (by omega) K31
set_option maxHeartbeats 8000000 in
theorem lc_10 {J : xe_J} {ov : List (List Int32)} (hJ : ∀ d mj as h, mj ≠ xe_loff → J d mj as h = none) (hov1 : ov[1]? = some [10, 0, 0, 0, 0, 0]) (hov2 : ov[2]? = some [99, 30, 50, 50, 1, 99999]) {xs : List Int32} (hov0 : ov[0]? = some xs) {Q : Option Value → xe_H → Prop} {h : xe_H} {x4 : Int32} (hi0 : 0 ≤ x4.toInt) (hi1 : x4.toInt + 6 ≤ xs.length) (hi2 : x4.toInt ≤ 3066) (T : xt h) (kk : ∀ (i : Int32) (h' : xe_H), i.toInt = x4.toInt + 6 → xk [(6, 0), (123, 0), (9, 0), (124, 0), (7, 0), (10, 0), (5, 0), (8, 0)] h h' → xw J ov 100 195 (23, [(4, .int i), (3, .ref 167), (2, .ref 115), (1, .ref 0), (0, .ref 1000000)], [], h') Q) : xw J ov 100 195 (590, [(4, .int x4), (3, .ref 167), (2, .ref 115), (1, .ref 0), (0, .ref 1000000)], [], h) Q := by
  have K : xk [(6, 0), (123, 0), (9, 0), (124, 0), (7, 0), (10, 0), (5, 0), (8, 0)] h h := xk_re T
  refine xi_aload_n (pc' := 591) (x := 0) kc_195_590 rfl rfl ?_
  refine xi_aload_n (pc' := 592) (x := 1000000) kc_195_591 rfl rfl ?_
  refine xi_iload (pc' := 594) (x := x4) kc_195_592 rfl rfl ?_
  refine xi_iconst (pc' := 595) (v := 1) kc_195_594 rfl rfl ?_
  obtain ⟨v1, ev1⟩ : ∃ q : Int32, x4 + 1 = q := ⟨_, rfl⟩
  have zv1 : v1.toInt = (x4.toInt + 1) := by rw [← ev1]; exact (xz_add (X := x4.toInt) (Y := 1) rfl (by decide) (by omega) (by omega)).trans (by omega)
  refine xi_iadd (pc' := 596) (v := v1) kc_195_595 rfl ev1 ?_
  obtain ⟨a2, ea2⟩ : ∃ q : Int32, xs.getD (Int32.toNatClampNeg v1) 0 = q := ⟨_, rfl⟩
  have ra2 := xc_rng a2
  refine xi_ialoadO (pc' := 597) (v := a2) kc_195_596 rfl (by decide) hov0 (xi_in (by omega) (by omega)) ea2 ?_
  refine xi_aload_n (pc' := 598) (x := 1000000) kc_195_597 rfl rfl ?_
  refine xi_iload (pc' := 600) (x := x4) kc_195_598 rfl rfl ?_
  refine xi_iconst (pc' := 601) (v := 2) kc_195_600 rfl rfl ?_
  obtain ⟨v3, ev3⟩ : ∃ q : Int32, x4 + 2 = q := ⟨_, rfl⟩
  have zv3 : v3.toInt = (x4.toInt + 2) := by rw [← ev3]; exact (xz_add (X := x4.toInt) (Y := 2) rfl (by decide) (by omega) (by omega)).trans (by omega)
  refine xi_iadd (pc' := 602) (v := v3) kc_195_601 rfl ev3 ?_
  obtain ⟨a4, ea4⟩ : ∃ q : Int32, xs.getD (Int32.toNatClampNeg v3) 0 = q := ⟨_, rfl⟩
  have ra4 := xc_rng a4
  refine xi_ialoadO (pc' := 603) (v := a4) kc_195_602 rfl (by decide) hov0 (xi_in (by omega) (by omega)) ea4 ?_
  refine xi_aload_n (pc' := 604) (x := 1000000) kc_195_603 rfl rfl ?_
  refine xi_iload (pc' := 606) (x := x4) kc_195_604 rfl rfl ?_
  refine xi_iconst (pc' := 607) (v := 3) kc_195_606 rfl rfl ?_
  obtain ⟨v5, ev5⟩ : ∃ q : Int32, x4 + 3 = q := ⟨_, rfl⟩
  have zv5 : v5.toInt = (x4.toInt + 3) := by rw [← ev5]; exact (xz_add (X := x4.toInt) (Y := 3) rfl (by decide) (by omega) (by omega)).trans (by omega)
  refine xi_iadd (pc' := 608) (v := v5) kc_195_607 rfl ev5 ?_
  obtain ⟨a6, ea6⟩ : ∃ q : Int32, xs.getD (Int32.toNatClampNeg v5) 0 = q := ⟨_, rfl⟩
  have ra6 := xc_rng a6
  refine xi_ialoadO (pc' := 609) (v := a6) kc_195_608 rfl (by decide) hov0 (xi_in (by omega) (by omega)) ea6 ?_
  refine xi_aload_n (pc' := 610) (x := 1000000) kc_195_609 rfl rfl ?_
  refine xi_iload (pc' := 612) (x := x4) kc_195_610 rfl rfl ?_
  refine xi_iconst (pc' := 613) (v := 4) kc_195_612 rfl rfl ?_
  obtain ⟨v7, ev7⟩ : ∃ q : Int32, x4 + 4 = q := ⟨_, rfl⟩
  have zv7 : v7.toInt = (x4.toInt + 4) := by rw [← ev7]; exact (xz_add (X := x4.toInt) (Y := 4) rfl (by decide) (by omega) (by omega)).trans (by omega)
  refine xi_iadd (pc' := 614) (v := v7) kc_195_613 rfl ev7 ?_
  obtain ⟨a8, ea8⟩ : ∃ q : Int32, xs.getD (Int32.toNatClampNeg v7) 0 = q := ⟨_, rfl⟩
  have ra8 := xc_rng a8
  refine xi_ialoadO (pc' := 615) (v := a8) kc_195_614 rfl (by decide) hov0 (xi_in (by omega) (by omega)) ea8 ?_
  obtain ⟨u9, u10, bu9, bu10, A11⟩ := xq_0 K.1
  refine xi_virtual (mj := 113) (as := [.int a2, .int a4, .int a6, .int a8]) (st1 := []) (lv0 := [(0, .ref 0), (1, .int a2), (2, .int a4), (3, .int a6), (4, .int a8)]) kc_195_615 rfl rfl rfl rfl rfl A11 (Nat.le_of_ble_eq_true rfl) (hJ _ _ _ _ (by decide)) (xm_le ml_113 rfl) rfl ?_
  refine mt_113_0 hJ hov1 hov2 (d := 96) (x1 := a2) (x2 := a4) (x3 := a6) (x4 := a8) K.1 (fun r12 hh13 br12 K14 => ?_)
  have K15 := xk_tr K K14 rfl
  obtain ⟨u16, u17, bu16, bu17, A18⟩ := xq_0 K15.1
  have e19 : u10 = u17 := xk_eqi (q := 9) K14 rfl A11 A18 rfl rfl
  subst e19
  show xw J ov 100 195 (618, [(4, .int x4), (3, .ref 167), (2, .ref 115), (1, .ref 0), (0, .ref 1000000)], [.int r12], hh13) _
  refine xi_pop (pc' := 619) kc_195_618 rfl rfl ?_
  refine xi_aload_n (pc' := 620) (x := 115) kc_195_619 rfl rfl ?_
  refine xi_aload_n (pc' := 621) (x := 1000000) kc_195_620 rfl rfl ?_
  refine xi_iload (pc' := 623) (x := x4) kc_195_621 rfl rfl ?_
  refine xi_iconst (pc' := 624) (v := 1) kc_195_623 rfl rfl ?_
  refine xi_iadd (pc' := 625) (v := v1) kc_195_624 rfl ev1 ?_
  refine xi_ialoadO (pc' := 626) (v := a2) kc_195_625 rfl (by decide) hov0 (xi_in (by omega) (by omega)) ea2 ?_
  refine xi_aload_n (pc' := 627) (x := 1000000) kc_195_626 rfl rfl ?_
  refine xi_iload (pc' := 629) (x := x4) kc_195_627 rfl rfl ?_
  refine xi_iconst (pc' := 630) (v := 2) kc_195_629 rfl rfl ?_
  refine xi_iadd (pc' := 631) (v := v3) kc_195_630 rfl ev3 ?_
  refine xi_ialoadO (pc' := 632) (v := a4) kc_195_631 rfl (by decide) hov0 (xi_in (by omega) (by omega)) ea4 ?_
  refine xi_aload_n (pc' := 633) (x := 1000000) kc_195_632 rfl rfl ?_
  refine xi_iload (pc' := 635) (x := x4) kc_195_633 rfl rfl ?_
  refine xi_iconst (pc' := 636) (v := 3) kc_195_635 rfl rfl ?_
  refine xi_iadd (pc' := 637) (v := v5) kc_195_636 rfl ev5 ?_
  refine xi_ialoadO (pc' := 638) (v := a6) kc_195_637 rfl (by decide) hov0 (xi_in (by omega) (by omega)) ea6 ?_
  refine xi_aload_n (pc' := 639) (x := 1000000) kc_195_638 rfl rfl ?_
  refine xi_iload (pc' := 641) (x := x4) kc_195_639 rfl rfl ?_
  refine xi_iconst (pc' := 642) (v := 4) kc_195_641 rfl rfl ?_
  refine xi_iadd (pc' := 643) (v := v7) kc_195_642 rfl ev7 ?_
  refine xi_ialoadO (pc' := 644) (v := a8) kc_195_643 rfl (by decide) hov0 (xi_in (by omega) (by omega)) ea8 ?_
  obtain ⟨u20, u21, u22, u23, u24, u25, u26, u27, u28, u29, u30, u31, u32, bu20, bu21, bu22, bu23, bu24, bu25, bu26, bu27, bu28, bu29, bu30, bu31, bu32, A33⟩ := xq_115 K15.1
  refine xi_virtual (mj := 30) (as := [.int a2, .int a4, .int a6, .int a8]) (st1 := []) (lv0 := [(0, .ref 115), (1, .int a2), (2, .int a4), (3, .int a6), (4, .int a8)]) kc_195_644 rfl rfl rfl rfl rfl A33 (Nat.le_of_ble_eq_true rfl) (hJ _ _ _ _ (by decide)) (xm_le ml_30 rfl) rfl ?_
  refine mt_30_0 hJ hov1 hov2 (d := 96) (x1 := a2) (x2 := a4) (x3 := a6) (x4 := a8) K15.1 (fun r34 hh35 br34 K36 => ?_)
  have K37 := xk_tr K15 K36 rfl
  obtain ⟨u38, u39, bu38, bu39, A40⟩ := xq_0 K37.1
  have e41 : u10 = u39 := xk_eqi (q := 9) K36 rfl A18 A40 rfl rfl
  subst e41
  obtain ⟨u42, u43, u44, u45, u46, u47, u48, u49, u50, u51, u52, u53, u54, bu42, bu43, bu44, bu45, bu46, bu47, bu48, bu49, bu50, bu51, bu52, bu53, bu54, A55⟩ := xq_115 K37.1
  have e56 : u21 = u43 := xk_eqi (q := 1) K36 rfl A33 A55 rfl rfl
  subst e56
  show xw J ov 100 195 (647, [(4, .int x4), (3, .ref 167), (2, .ref 115), (1, .ref 0), (0, .ref 1000000)], [.int r34], hh35) _
  refine xi_pop (pc' := 648) kc_195_647 rfl rfl ?_
  refine xi_goto (pc' := 1501) kc_195_648 rfl ?_
  obtain ⟨v57, ev57⟩ : ∃ q : Int32, x4 + 6 = q := ⟨_, rfl⟩
  have zv57 : v57.toInt = (x4.toInt + 6) := by rw [← ev57]; exact (xz_add (X := x4.toInt) (Y := 6) rfl (by decide) (by omega) (by omega)).trans (by omega)
  refine xi_iinc (pc' := 1504) (x := x4) (v := v57) (lv' := [(4, .int v57), (3, .ref 167), (2, .ref 115), (1, .ref 0), (0, .ref 1000000)]) kc_195_1501 rfl rfl ev57 rfl (xm_lt ml_195 rfl) ?_
  refine xi_goto (pc' := 23) kc_195_1504 rfl ?_
  exact kk v57 hh35 (by omega) K37
set_option maxHeartbeats 8000000 in
theorem lc_11 {J : xe_J} {ov : List (List Int32)} (hJ : ∀ d mj as h, mj ≠ xe_loff → J d mj as h = none) (hov1 : ov[1]? = some [10, 0, 0, 0, 0, 0]) (hov2 : ov[2]? = some [99, 30, 50, 50, 1, 99999]) {xs : List Int32} (hov0 : ov[0]? = some xs) {Q : Option Value → xe_H → Prop} {h : xe_H} {x4 : Int32} (hi0 : 0 ≤ x4.toInt) (hi1 : x4.toInt + 6 ≤ xs.length) (hi2 : x4.toInt ≤ 3066) (T : xt h) (kk : ∀ (i : Int32) (h' : xe_H), i.toInt = x4.toInt + 6 → xk [(6, 0), (123, 0), (9, 0), (124, 0), (7, 0), (10, 0), (5, 0), (8, 0)] h h' → xw J ov 100 195 (23, [(4, .int i), (3, .ref 167), (2, .ref 115), (1, .ref 0), (0, .ref 1000000)], [], h') Q) : xw J ov 100 195 (651, [(4, .int x4), (3, .ref 167), (2, .ref 115), (1, .ref 0), (0, .ref 1000000)], [], h) Q := by
  have K : xk [(6, 0), (123, 0), (9, 0), (124, 0), (7, 0), (10, 0), (5, 0), (8, 0)] h h := xk_re T
  refine xi_aload_n (pc' := 652) (x := 0) kc_195_651 rfl rfl ?_
  refine xi_aload_n (pc' := 653) (x := 1000000) kc_195_652 rfl rfl ?_
  refine xi_iload (pc' := 655) (x := x4) kc_195_653 rfl rfl ?_
  refine xi_iconst (pc' := 656) (v := 1) kc_195_655 rfl rfl ?_
  obtain ⟨v1, ev1⟩ : ∃ q : Int32, x4 + 1 = q := ⟨_, rfl⟩
  have zv1 : v1.toInt = (x4.toInt + 1) := by rw [← ev1]; exact (xz_add (X := x4.toInt) (Y := 1) rfl (by decide) (by omega) (by omega)).trans (by omega)
  refine xi_iadd (pc' := 657) (v := v1) kc_195_656 rfl ev1 ?_
  obtain ⟨a2, ea2⟩ : ∃ q : Int32, xs.getD (Int32.toNatClampNeg v1) 0 = q := ⟨_, rfl⟩
  have ra2 := xc_rng a2
  refine xi_ialoadO (pc' := 658) (v := a2) kc_195_657 rfl (by decide) hov0 (xi_in (by omega) (by omega)) ea2 ?_
  refine xi_aload_n (pc' := 659) (x := 1000000) kc_195_658 rfl rfl ?_
  refine xi_iload (pc' := 661) (x := x4) kc_195_659 rfl rfl ?_
  refine xi_iconst (pc' := 662) (v := 2) kc_195_661 rfl rfl ?_
  obtain ⟨v3, ev3⟩ : ∃ q : Int32, x4 + 2 = q := ⟨_, rfl⟩
  have zv3 : v3.toInt = (x4.toInt + 2) := by rw [← ev3]; exact (xz_add (X := x4.toInt) (Y := 2) rfl (by decide) (by omega) (by omega)).trans (by omega)
  refine xi_iadd (pc' := 663) (v := v3) kc_195_662 rfl ev3 ?_
  obtain ⟨a4, ea4⟩ : ∃ q : Int32, xs.getD (Int32.toNatClampNeg v3) 0 = q := ⟨_, rfl⟩
  have ra4 := xc_rng a4
  refine xi_ialoadO (pc' := 664) (v := a4) kc_195_663 rfl (by decide) hov0 (xi_in (by omega) (by omega)) ea4 ?_
  refine xi_aload_n (pc' := 665) (x := 1000000) kc_195_664 rfl rfl ?_
  refine xi_iload (pc' := 667) (x := x4) kc_195_665 rfl rfl ?_
  refine xi_iconst (pc' := 668) (v := 3) kc_195_667 rfl rfl ?_
  obtain ⟨v5, ev5⟩ : ∃ q : Int32, x4 + 3 = q := ⟨_, rfl⟩
  have zv5 : v5.toInt = (x4.toInt + 3) := by rw [← ev5]; exact (xz_add (X := x4.toInt) (Y := 3) rfl (by decide) (by omega) (by omega)).trans (by omega)
  refine xi_iadd (pc' := 669) (v := v5) kc_195_668 rfl ev5 ?_
  obtain ⟨a6, ea6⟩ : ∃ q : Int32, xs.getD (Int32.toNatClampNeg v5) 0 = q := ⟨_, rfl⟩
  have ra6 := xc_rng a6
  refine xi_ialoadO (pc' := 670) (v := a6) kc_195_669 rfl (by decide) hov0 (xi_in (by omega) (by omega)) ea6 ?_
  refine xi_aload_n (pc' := 671) (x := 1000000) kc_195_670 rfl rfl ?_
  refine xi_iload (pc' := 673) (x := x4) kc_195_671 rfl rfl ?_
  refine xi_iconst (pc' := 674) (v := 4) kc_195_673 rfl rfl ?_
  obtain ⟨v7, ev7⟩ : ∃ q : Int32, x4 + 4 = q := ⟨_, rfl⟩
  have zv7 : v7.toInt = (x4.toInt + 4) := by rw [← ev7]; exact (xz_add (X := x4.toInt) (Y := 4) rfl (by decide) (by omega) (by omega)).trans (by omega)
  refine xi_iadd (pc' := 675) (v := v7) kc_195_674 rfl ev7 ?_
  obtain ⟨a8, ea8⟩ : ∃ q : Int32, xs.getD (Int32.toNatClampNeg v7) 0 = q := ⟨_, rfl⟩
  have ra8 := xc_rng a8
  refine xi_ialoadO (pc' := 676) (v := a8) kc_195_675 rfl (by decide) hov0 (xi_in (by omega) (by omega)) ea8 ?_
  obtain ⟨u9, u10, bu9, bu10, A11⟩ := xq_0 K.1
  refine xi_virtual (mj := 116) (as := [.int a2, .int a4, .int a6, .int a8]) (st1 := []) (lv0 := [(0, .ref 0), (1, .int a2), (2, .int a4), (3, .int a6), (4, .int a8)]) kc_195_676 rfl rfl rfl rfl rfl A11 (Nat.le_of_ble_eq_true rfl) (hJ _ _ _ _ (by decide)) (xm_le ml_116 rfl) rfl ?_
  refine mt_116_0 hJ hov1 hov2 (d := 95) (x1 := a2) (x2 := a4) (x3 := a6) (x4 := a8) K.1 (fun r12 hh13 br12 K14 => ?_)
  have K15 := xk_tr K K14 rfl
  obtain ⟨u16, u17, bu16, bu17, A18⟩ := xq_0 K15.1
  have e19 : u10 = u17 := xk_eqi (q := 9) K14 rfl A11 A18 rfl rfl
  subst e19
  show xw J ov 100 195 (679, [(4, .int x4), (3, .ref 167), (2, .ref 115), (1, .ref 0), (0, .ref 1000000)], [.int r12], hh13) _
  refine xi_pop (pc' := 680) kc_195_679 rfl rfl ?_
  refine xi_aload_n (pc' := 681) (x := 115) kc_195_680 rfl rfl ?_
  refine xi_aload_n (pc' := 682) (x := 1000000) kc_195_681 rfl rfl ?_
  refine xi_iload (pc' := 684) (x := x4) kc_195_682 rfl rfl ?_
  refine xi_iconst (pc' := 685) (v := 1) kc_195_684 rfl rfl ?_
  refine xi_iadd (pc' := 686) (v := v1) kc_195_685 rfl ev1 ?_
  refine xi_ialoadO (pc' := 687) (v := a2) kc_195_686 rfl (by decide) hov0 (xi_in (by omega) (by omega)) ea2 ?_
  refine xi_aload_n (pc' := 688) (x := 1000000) kc_195_687 rfl rfl ?_
  refine xi_iload (pc' := 690) (x := x4) kc_195_688 rfl rfl ?_
  refine xi_iconst (pc' := 691) (v := 2) kc_195_690 rfl rfl ?_
  refine xi_iadd (pc' := 692) (v := v3) kc_195_691 rfl ev3 ?_
  refine xi_ialoadO (pc' := 693) (v := a4) kc_195_692 rfl (by decide) hov0 (xi_in (by omega) (by omega)) ea4 ?_
  refine xi_aload_n (pc' := 694) (x := 1000000) kc_195_693 rfl rfl ?_
  refine xi_iload (pc' := 696) (x := x4) kc_195_694 rfl rfl ?_
  refine xi_iconst (pc' := 697) (v := 3) kc_195_696 rfl rfl ?_
  refine xi_iadd (pc' := 698) (v := v5) kc_195_697 rfl ev5 ?_
  refine xi_ialoadO (pc' := 699) (v := a6) kc_195_698 rfl (by decide) hov0 (xi_in (by omega) (by omega)) ea6 ?_
  refine xi_aload_n (pc' := 700) (x := 1000000) kc_195_699 rfl rfl ?_
  refine xi_iload (pc' := 702) (x := x4) kc_195_700 rfl rfl ?_
  refine xi_iconst (pc' := 703) (v := 4) kc_195_702 rfl rfl ?_
  refine xi_iadd (pc' := 704) (v := v7) kc_195_703 rfl ev7 ?_
  refine xi_ialoadO (pc' := 705) (v := a8) kc_195_704 rfl (by decide) hov0 (xi_in (by omega) (by omega)) ea8 ?_
  obtain ⟨u20, u21, u22, u23, u24, u25, u26, u27, u28, u29, u30, u31, u32, bu20, bu21, bu22, bu23, bu24, bu25, bu26, bu27, bu28, bu29, bu30, bu31, bu32, A33⟩ := xq_115 K15.1
  refine xi_virtual (mj := 32) (as := [.int a2, .int a4, .int a6, .int a8]) (st1 := []) (lv0 := [(0, .ref 115), (1, .int a2), (2, .int a4), (3, .int a6), (4, .int a8)]) kc_195_705 rfl rfl rfl rfl rfl A33 (Nat.le_of_ble_eq_true rfl) (hJ _ _ _ _ (by decide)) (xm_le ml_32 rfl) rfl ?_
  refine mt_32_0 hJ hov1 hov2 (d := 96) (x1 := a2) (x2 := a4) (x3 := a6) (x4 := a8) K15.1 (fun r34 hh35 br34 K36 => ?_)
  have K37 := xk_tr K15 K36 rfl
  obtain ⟨u38, u39, bu38, bu39, A40⟩ := xq_0 K37.1
  have e41 : u10 = u39 := xk_eqi (q := 9) K36 rfl A18 A40 rfl rfl
  subst e41
  obtain ⟨u42, u43, u44, u45, u46, u47, u48, u49, u50, u51, u52, u53, u54, bu42, bu43, bu44, bu45, bu46, bu47, bu48, bu49, bu50, bu51, bu52, bu53, bu54, A55⟩ := xq_115 K37.1
  have e56 : u21 = u43 := xk_eqi (q := 1) K36 rfl A33 A55 rfl rfl
  subst e56
  show xw J ov 100 195 (708, [(4, .int x4), (3, .ref 167), (2, .ref 115), (1, .ref 0), (0, .ref 1000000)], [.int r34], hh35) _
  refine xi_pop (pc' := 709) kc_195_708 rfl rfl ?_
  refine xi_goto (pc' := 1501) kc_195_709 rfl ?_
  obtain ⟨v57, ev57⟩ : ∃ q : Int32, x4 + 6 = q := ⟨_, rfl⟩
  have zv57 : v57.toInt = (x4.toInt + 6) := by rw [← ev57]; exact (xz_add (X := x4.toInt) (Y := 6) rfl (by decide) (by omega) (by omega)).trans (by omega)
  refine xi_iinc (pc' := 1504) (x := x4) (v := v57) (lv' := [(4, .int v57), (3, .ref 167), (2, .ref 115), (1, .ref 0), (0, .ref 1000000)]) kc_195_1501 rfl rfl ev57 rfl (xm_lt ml_195 rfl) ?_
  refine xi_goto (pc' := 23) kc_195_1504 rfl ?_
  exact kk v57 hh35 (by omega) K37
set_option maxHeartbeats 8000000 in
theorem lc_12 {J : xe_J} {ov : List (List Int32)} (hJ : ∀ d mj as h, mj ≠ xe_loff → J d mj as h = none) (hov1 : ov[1]? = some [10, 0, 0, 0, 0, 0]) (hov2 : ov[2]? = some [99, 30, 50, 50, 1, 99999]) {xs : List Int32} (hov0 : ov[0]? = some xs) {Q : Option Value → xe_H → Prop} {h : xe_H} {x4 : Int32} (hi0 : 0 ≤ x4.toInt) (hi1 : x4.toInt + 6 ≤ xs.length) (hi2 : x4.toInt ≤ 3066) (T : xt h) (kk : ∀ (i : Int32) (h' : xe_H), i.toInt = x4.toInt + 6 → xk [(6, 0), (123, 0), (9, 0), (124, 0), (7, 0), (10, 0), (5, 0), (8, 0)] h h' → xw J ov 100 195 (23, [(4, .int i), (3, .ref 167), (2, .ref 115), (1, .ref 0), (0, .ref 1000000)], [], h') Q) : xw J ov 100 195 (712, [(4, .int x4), (3, .ref 167), (2, .ref 115), (1, .ref 0), (0, .ref 1000000)], [], h) Q := by
  have K : xk [(6, 0), (123, 0), (9, 0), (124, 0), (7, 0), (10, 0), (5, 0), (8, 0)] h h := xk_re T
  refine xi_aload_n (pc' := 713) (x := 0) kc_195_712 rfl rfl ?_
  refine xi_aload_n (pc' := 714) (x := 1000000) kc_195_713 rfl rfl ?_
  refine xi_iload (pc' := 716) (x := x4) kc_195_714 rfl rfl ?_
  refine xi_iconst (pc' := 717) (v := 1) kc_195_716 rfl rfl ?_
  obtain ⟨v1, ev1⟩ : ∃ q : Int32, x4 + 1 = q := ⟨_, rfl⟩
  have zv1 : v1.toInt = (x4.toInt + 1) := by rw [← ev1]; exact (xz_add (X := x4.toInt) (Y := 1) rfl (by decide) (by omega) (by omega)).trans (by omega)
  refine xi_iadd (pc' := 718) (v := v1) kc_195_717 rfl ev1 ?_
  obtain ⟨a2, ea2⟩ : ∃ q : Int32, xs.getD (Int32.toNatClampNeg v1) 0 = q := ⟨_, rfl⟩
  have ra2 := xc_rng a2
  refine xi_ialoadO (pc' := 719) (v := a2) kc_195_718 rfl (by decide) hov0 (xi_in (by omega) (by omega)) ea2 ?_
  refine xi_aload_n (pc' := 720) (x := 1000000) kc_195_719 rfl rfl ?_
  refine xi_iload (pc' := 722) (x := x4) kc_195_720 rfl rfl ?_
  refine xi_iconst (pc' := 723) (v := 2) kc_195_722 rfl rfl ?_
  obtain ⟨v3, ev3⟩ : ∃ q : Int32, x4 + 2 = q := ⟨_, rfl⟩
  have zv3 : v3.toInt = (x4.toInt + 2) := by rw [← ev3]; exact (xz_add (X := x4.toInt) (Y := 2) rfl (by decide) (by omega) (by omega)).trans (by omega)
  refine xi_iadd (pc' := 724) (v := v3) kc_195_723 rfl ev3 ?_
  obtain ⟨a4, ea4⟩ : ∃ q : Int32, xs.getD (Int32.toNatClampNeg v3) 0 = q := ⟨_, rfl⟩
  have ra4 := xc_rng a4
  refine xi_ialoadO (pc' := 725) (v := a4) kc_195_724 rfl (by decide) hov0 (xi_in (by omega) (by omega)) ea4 ?_
  by_cases c5 : a4.toInt = 0
  · refine xi_ift (pc' := 732) kc_195_725 rfl (xc_eq_t (X := a4.toInt) (Y := 0) rfl (by decide) (by omega)) ?_
    refine xi_iconst (pc' := 733) (v := 0) kc_195_732 rfl rfl ?_
    obtain ⟨u6, u7, bu6, bu7, A8⟩ := xq_0 K.1
    refine xi_virtual (mj := 120) (as := [.int a2, .int 0]) (st1 := []) (lv0 := [(0, .ref 0), (1, .int a2), (2, .int 0)]) kc_195_733 rfl rfl rfl rfl rfl A8 (Nat.le_of_ble_eq_true rfl) (hJ _ _ _ _ (by decide)) (xm_le ml_120 rfl) rfl ?_
    have zc0 : (0 : Int32).toInt = 0 := by decide
    refine mt_120_0 hJ hov1 hov2 (d := 98) (x1 := a2) (x2 := 0) K.1 (by first | omega | decide) (fun r9 hh10 br9 K11 => ?_)
    have K12 := xk_tr K K11 rfl
    obtain ⟨u13, u14, bu13, bu14, A15⟩ := xq_0 K12.1
    have e16 : u7 = u14 := xk_eqi (q := 9) K11 rfl A8 A15 rfl rfl
    subst e16
    show xw J ov 100 195 (736, [(4, .int x4), (3, .ref 167), (2, .ref 115), (1, .ref 0), (0, .ref 1000000)], [.int r9], hh10) _
    refine xi_pop (pc' := 737) kc_195_736 rfl rfl ?_
    refine xi_aload_n (pc' := 738) (x := 115) kc_195_737 rfl rfl ?_
    refine xi_aload_n (pc' := 739) (x := 1000000) kc_195_738 rfl rfl ?_
    refine xi_iload (pc' := 741) (x := x4) kc_195_739 rfl rfl ?_
    refine xi_iconst (pc' := 742) (v := 1) kc_195_741 rfl rfl ?_
    refine xi_iadd (pc' := 743) (v := v1) kc_195_742 rfl ev1 ?_
    refine xi_ialoadO (pc' := 744) (v := a2) kc_195_743 rfl (by decide) hov0 (xi_in (by omega) (by omega)) ea2 ?_
    refine xi_aload_n (pc' := 745) (x := 1000000) kc_195_744 rfl rfl ?_
    refine xi_iload (pc' := 747) (x := x4) kc_195_745 rfl rfl ?_
    refine xi_iconst (pc' := 748) (v := 2) kc_195_747 rfl rfl ?_
    refine xi_iadd (pc' := 749) (v := v3) kc_195_748 rfl ev3 ?_
    refine xi_ialoadO (pc' := 750) (v := a4) kc_195_749 rfl (by decide) hov0 (xi_in (by omega) (by omega)) ea4 ?_
    refine xi_ift (pc' := 757) kc_195_750 rfl (xc_eq_t (X := a4.toInt) (Y := 0) rfl (by decide) (by omega)) ?_
    refine xi_iconst (pc' := 758) (v := 0) kc_195_757 rfl rfl ?_
    obtain ⟨u17, u18, u19, u20, u21, u22, u23, u24, u25, u26, u27, u28, u29, bu17, bu18, bu19, bu20, bu21, bu22, bu23, bu24, bu25, bu26, bu27, bu28, bu29, A30⟩ := xq_115 K12.1
    refine xi_virtual (mj := 33) (as := [.int a2, .int 0]) (st1 := []) (lv0 := [(0, .ref 115), (1, .int a2), (2, .int 0)]) kc_195_758 rfl rfl rfl rfl rfl A30 (Nat.le_of_ble_eq_true rfl) (hJ _ _ _ _ (by decide)) (xm_le ml_33 rfl) rfl ?_
    have zc0 : (0 : Int32).toInt = 0 := by decide
    refine mt_33_0 hJ hov1 hov2 (d := 98) (x1 := a2) (x2 := 0) K12.1 (by first | omega | decide) (fun r31 hh32 br31 K33 => ?_)
    have K34 := xk_tr K12 K33 rfl
    obtain ⟨u35, u36, bu35, bu36, A37⟩ := xq_0 K34.1
    have e38 : u7 = u36 := xk_eqi (q := 9) K33 rfl A15 A37 rfl rfl
    subst e38
    obtain ⟨u39, u40, u41, u42, u43, u44, u45, u46, u47, u48, u49, u50, u51, bu39, bu40, bu41, bu42, bu43, bu44, bu45, bu46, bu47, bu48, bu49, bu50, bu51, A52⟩ := xq_115 K34.1
    have e53 : u18 = u40 := xk_eqi (q := 1) K33 rfl A30 A52 rfl rfl
    subst e53
    show xw J ov 100 195 (761, [(4, .int x4), (3, .ref 167), (2, .ref 115), (1, .ref 0), (0, .ref 1000000)], [.int r31], hh32) _
    refine xi_pop (pc' := 762) kc_195_761 rfl rfl ?_
    refine xi_goto (pc' := 1501) kc_195_762 rfl ?_
    obtain ⟨v54, ev54⟩ : ∃ q : Int32, x4 + 6 = q := ⟨_, rfl⟩
    have zv54 : v54.toInt = (x4.toInt + 6) := by rw [← ev54]; exact (xz_add (X := x4.toInt) (Y := 6) rfl (by decide) (by omega) (by omega)).trans (by omega)
    refine xi_iinc (pc' := 1504) (x := x4) (v := v54) (lv' := [(4, .int v54), (3, .ref 167), (2, .ref 115), (1, .ref 0), (0, .ref 1000000)]) kc_195_1501 rfl rfl ev54 rfl (xm_lt ml_195 rfl) ?_
    refine xi_goto (pc' := 23) kc_195_1504 rfl ?_
    exact kk v54 hh32 (by omega) K34
  · refine xi_iff (pc' := 728) kc_195_725 rfl (xc_eq_f (X := a4.toInt) (Y := 0) rfl (by decide) (by omega)) ?_
    refine xi_iconst (pc' := 729) (v := 1) kc_195_728 rfl rfl ?_
    refine xi_goto (pc' := 733) kc_195_729 rfl ?_
    obtain ⟨u55, u56, bu55, bu56, A57⟩ := xq_0 K.1
    refine xi_virtual (mj := 120) (as := [.int a2, .int 1]) (st1 := []) (lv0 := [(0, .ref 0), (1, .int a2), (2, .int 1)]) kc_195_733 rfl rfl rfl rfl rfl A57 (Nat.le_of_ble_eq_true rfl) (hJ _ _ _ _ (by decide)) (xm_le ml_120 rfl) rfl ?_
    have zc1 : (1 : Int32).toInt = 1 := by decide
    refine mt_120_0 hJ hov1 hov2 (d := 98) (x1 := a2) (x2 := 1) K.1 (by first | omega | decide) (fun r58 hh59 br58 K60 => ?_)
    have K61 := xk_tr K K60 rfl
    obtain ⟨u62, u63, bu62, bu63, A64⟩ := xq_0 K61.1
    have e65 : u56 = u63 := xk_eqi (q := 9) K60 rfl A57 A64 rfl rfl
    subst e65
    show xw J ov 100 195 (736, [(4, .int x4), (3, .ref 167), (2, .ref 115), (1, .ref 0), (0, .ref 1000000)], [.int r58], hh59) _
    refine xi_pop (pc' := 737) kc_195_736 rfl rfl ?_
    refine xi_aload_n (pc' := 738) (x := 115) kc_195_737 rfl rfl ?_
    refine xi_aload_n (pc' := 739) (x := 1000000) kc_195_738 rfl rfl ?_
    refine xi_iload (pc' := 741) (x := x4) kc_195_739 rfl rfl ?_
    refine xi_iconst (pc' := 742) (v := 1) kc_195_741 rfl rfl ?_
    refine xi_iadd (pc' := 743) (v := v1) kc_195_742 rfl ev1 ?_
    refine xi_ialoadO (pc' := 744) (v := a2) kc_195_743 rfl (by decide) hov0 (xi_in (by omega) (by omega)) ea2 ?_
    refine xi_aload_n (pc' := 745) (x := 1000000) kc_195_744 rfl rfl ?_
    refine xi_iload (pc' := 747) (x := x4) kc_195_745 rfl rfl ?_
    refine xi_iconst (pc' := 748) (v := 2) kc_195_747 rfl rfl ?_
    refine xi_iadd (pc' := 749) (v := v3) kc_195_748 rfl ev3 ?_
    refine xi_ialoadO (pc' := 750) (v := a4) kc_195_749 rfl (by decide) hov0 (xi_in (by omega) (by omega)) ea4 ?_
    refine xi_iff (pc' := 753) kc_195_750 rfl (xc_eq_f (X := a4.toInt) (Y := 0) rfl (by decide) (by omega)) ?_
    refine xi_iconst (pc' := 754) (v := 1) kc_195_753 rfl rfl ?_
    refine xi_goto (pc' := 758) kc_195_754 rfl ?_
    obtain ⟨u66, u67, u68, u69, u70, u71, u72, u73, u74, u75, u76, u77, u78, bu66, bu67, bu68, bu69, bu70, bu71, bu72, bu73, bu74, bu75, bu76, bu77, bu78, A79⟩ := xq_115 K61.1
    refine xi_virtual (mj := 33) (as := [.int a2, .int 1]) (st1 := []) (lv0 := [(0, .ref 115), (1, .int a2), (2, .int 1)]) kc_195_758 rfl rfl rfl rfl rfl A79 (Nat.le_of_ble_eq_true rfl) (hJ _ _ _ _ (by decide)) (xm_le ml_33 rfl) rfl ?_
    have zc1 : (1 : Int32).toInt = 1 := by decide
    refine mt_33_0 hJ hov1 hov2 (d := 98) (x1 := a2) (x2 := 1) K61.1 (by first | omega | decide) (fun r80 hh81 br80 K82 => ?_)
    have K83 := xk_tr K61 K82 rfl
    obtain ⟨u84, u85, bu84, bu85, A86⟩ := xq_0 K83.1
    have e87 : u56 = u85 := xk_eqi (q := 9) K82 rfl A64 A86 rfl rfl
    subst e87
    obtain ⟨u88, u89, u90, u91, u92, u93, u94, u95, u96, u97, u98, u99, u100, bu88, bu89, bu90, bu91, bu92, bu93, bu94, bu95, bu96, bu97, bu98, bu99, bu100, A101⟩ := xq_115 K83.1
    have e102 : u67 = u89 := xk_eqi (q := 1) K82 rfl A79 A101 rfl rfl
    subst e102
    show xw J ov 100 195 (761, [(4, .int x4), (3, .ref 167), (2, .ref 115), (1, .ref 0), (0, .ref 1000000)], [.int r80], hh81) _
    refine xi_pop (pc' := 762) kc_195_761 rfl rfl ?_
    refine xi_goto (pc' := 1501) kc_195_762 rfl ?_
    obtain ⟨v103, ev103⟩ : ∃ q : Int32, x4 + 6 = q := ⟨_, rfl⟩
    have zv103 : v103.toInt = (x4.toInt + 6) := by rw [← ev103]; exact (xz_add (X := x4.toInt) (Y := 6) rfl (by decide) (by omega) (by omega)).trans (by omega)
    refine xi_iinc (pc' := 1504) (x := x4) (v := v103) (lv' := [(4, .int v103), (3, .ref 167), (2, .ref 115), (1, .ref 0), (0, .ref 1000000)]) kc_195_1501 rfl rfl ev103 rfl (xm_lt ml_195 rfl) ?_
    refine xi_goto (pc' := 23) kc_195_1504 rfl ?_
    exact kk v103 hh81 (by omega) K83
set_option maxHeartbeats 8000000 in
theorem lc_13 {J : xe_J} {ov : List (List Int32)} (hJ : ∀ d mj as h, mj ≠ xe_loff → J d mj as h = none) (hov1 : ov[1]? = some [10, 0, 0, 0, 0, 0]) (hov2 : ov[2]? = some [99, 30, 50, 50, 1, 99999]) {xs : List Int32} (hov0 : ov[0]? = some xs) {Q : Option Value → xe_H → Prop} {h : xe_H} {x4 : Int32} (hi0 : 0 ≤ x4.toInt) (hi1 : x4.toInt + 6 ≤ xs.length) (hi2 : x4.toInt ≤ 3066) (T : xt h) (kk : ∀ (i : Int32) (h' : xe_H), i.toInt = x4.toInt + 6 → xk [(6, 0), (123, 0), (9, 0), (124, 0), (7, 0), (10, 0), (5, 0), (8, 0)] h h' → xw J ov 100 195 (23, [(4, .int i), (3, .ref 167), (2, .ref 115), (1, .ref 0), (0, .ref 1000000)], [], h') Q) : xw J ov 100 195 (765, [(4, .int x4), (3, .ref 167), (2, .ref 115), (1, .ref 0), (0, .ref 1000000)], [], h) Q := by
  have K : xk [(6, 0), (123, 0), (9, 0), (124, 0), (7, 0), (10, 0), (5, 0), (8, 0)] h h := xk_re T
  refine xi_aload_n (pc' := 766) (x := 0) kc_195_765 rfl rfl ?_
  refine xi_aload_n (pc' := 767) (x := 1000000) kc_195_766 rfl rfl ?_
  refine xi_iload (pc' := 769) (x := x4) kc_195_767 rfl rfl ?_
  refine xi_iconst (pc' := 770) (v := 1) kc_195_769 rfl rfl ?_
  obtain ⟨v1, ev1⟩ : ∃ q : Int32, x4 + 1 = q := ⟨_, rfl⟩
  have zv1 : v1.toInt = (x4.toInt + 1) := by rw [← ev1]; exact (xz_add (X := x4.toInt) (Y := 1) rfl (by decide) (by omega) (by omega)).trans (by omega)
  refine xi_iadd (pc' := 771) (v := v1) kc_195_770 rfl ev1 ?_
  obtain ⟨a2, ea2⟩ : ∃ q : Int32, xs.getD (Int32.toNatClampNeg v1) 0 = q := ⟨_, rfl⟩
  have ra2 := xc_rng a2
  refine xi_ialoadO (pc' := 772) (v := a2) kc_195_771 rfl (by decide) hov0 (xi_in (by omega) (by omega)) ea2 ?_
  obtain ⟨u3, u4, bu3, bu4, A5⟩ := xq_0 K.1
  refine xi_virtual (mj := 121) (as := [.int a2]) (st1 := []) (lv0 := [(0, .ref 0), (1, .int a2)]) kc_195_772 rfl rfl rfl rfl rfl A5 (Nat.le_of_ble_eq_true rfl) (hJ _ _ _ _ (by decide)) (xm_le ml_121 rfl) rfl ?_
  refine mt_121_0 hJ hov1 hov2 (d := 93) (x1 := a2) (u0 := u4) K.1 (by omega) (fun v e => by have e2 := xl_val (u := u4) A5 rfl e; subst e2; omega) (fun r6 hh7 br6 K8 => ?_)
  have K9 := xk_tr K K8 rfl
  show xw J ov 100 195 (775, [(4, .int x4), (3, .ref 167), (2, .ref 115), (1, .ref 0), (0, .ref 1000000)], [.int r6], hh7) _
  refine xi_pop (pc' := 776) kc_195_775 rfl rfl ?_
  refine xi_aload_n (pc' := 777) (x := 115) kc_195_776 rfl rfl ?_
  refine xi_aload_n (pc' := 778) (x := 1000000) kc_195_777 rfl rfl ?_
  refine xi_iload (pc' := 780) (x := x4) kc_195_778 rfl rfl ?_
  refine xi_iconst (pc' := 781) (v := 1) kc_195_780 rfl rfl ?_
  refine xi_iadd (pc' := 782) (v := v1) kc_195_781 rfl ev1 ?_
  refine xi_ialoadO (pc' := 783) (v := a2) kc_195_782 rfl (by decide) hov0 (xi_in (by omega) (by omega)) ea2 ?_
  obtain ⟨u10, u11, u12, u13, u14, u15, u16, u17, u18, u19, u20, u21, u22, bu10, bu11, bu12, bu13, bu14, bu15, bu16, bu17, bu18, bu19, bu20, bu21, bu22, A23⟩ := xq_115 K9.1
  refine xi_virtual (mj := 34) (as := [.int a2]) (st1 := []) (lv0 := [(0, .ref 115), (1, .int a2)]) kc_195_783 rfl rfl rfl rfl rfl A23 (Nat.le_of_ble_eq_true rfl) (hJ _ _ _ _ (by decide)) (xm_le ml_34 rfl) rfl ?_
  refine mt_34_0 hJ hov1 hov2 (d := 93) (x1 := a2) (u0 := u11) K9.1 (by omega) (fun v e => by have e2 := xl_val (u := u11) A23 rfl e; subst e2; omega) (fun r24 hh25 br24 K26 => ?_)
  have K27 := xk_tr K9 K26 rfl
  show xw J ov 100 195 (786, [(4, .int x4), (3, .ref 167), (2, .ref 115), (1, .ref 0), (0, .ref 1000000)], [.int r24], hh25) _
  refine xi_pop (pc' := 787) kc_195_786 rfl rfl ?_
  refine xi_goto (pc' := 1501) kc_195_787 rfl ?_
  obtain ⟨v28, ev28⟩ : ∃ q : Int32, x4 + 6 = q := ⟨_, rfl⟩
  have zv28 : v28.toInt = (x4.toInt + 6) := by rw [← ev28]; exact (xz_add (X := x4.toInt) (Y := 6) rfl (by decide) (by omega) (by omega)).trans (by omega)
  refine xi_iinc (pc' := 1504) (x := x4) (v := v28) (lv' := [(4, .int v28), (3, .ref 167), (2, .ref 115), (1, .ref 0), (0, .ref 1000000)]) kc_195_1501 rfl rfl ev28 rfl (xm_lt ml_195 rfl) ?_
  refine xi_goto (pc' := 23) kc_195_1504 rfl ?_
  exact kk v28 hh25 (by omega) K27
set_option maxHeartbeats 8000000 in
theorem lc_14 {J : xe_J} {ov : List (List Int32)} (hJ : ∀ d mj as h, mj ≠ xe_loff → J d mj as h = none) (hov1 : ov[1]? = some [10, 0, 0, 0, 0, 0]) (hov2 : ov[2]? = some [99, 30, 50, 50, 1, 99999]) {xs : List Int32} (hov0 : ov[0]? = some xs) (hoff : ∀ (v : Int32) (h : xe_H), xt h → h.length < xe_o → ∃ (r : Int32) (h' : xe_H), J 99 194 [.ref 0, .int v, .ref 167] h = some (some (.int r), h') ∧ xt h' ∧ (∀ l : Nat × Nat, List.elem l [(6, 0), (123, 0), (9, 0), (124, 0), (7, 0), (10, 0), (5, 0), (8, 0)] = true → xl h' l = xl h l) ∧ h'.length ≤ h.length + 1 ∧ xe_sz h' ≤ xe_sz h + 6) {Q : Option Value → xe_H → Prop} {h : xe_H} {x4 : Int32} (hi0 : 0 ≤ x4.toInt) (hi1 : x4.toInt + 6 ≤ xs.length) (hi2 : x4.toInt ≤ 3066) (T : xt h) (hn : h.length < xe_o) (kk : ∀ (i : Int32) (h' : xe_H), i.toInt = x4.toInt + 6 → xt h' → (∀ l : Nat × Nat, List.elem l [(6, 0), (123, 0), (9, 0), (124, 0), (7, 0), (10, 0), (5, 0), (8, 0)] = true → xl h' l = xl h l) → h'.length ≤ h.length + 1 → xe_sz h' ≤ xe_sz h + 6 → xw J ov 100 195 (23, [(4, .int i), (3, .ref 167), (2, .ref 115), (1, .ref 0), (0, .ref 1000000)], [], h') Q) : xw J ov 100 195 (790, [(4, .int x4), (3, .ref 167), (2, .ref 115), (1, .ref 0), (0, .ref 1000000)], [], h) Q := by
  have K : xk [(6, 0), (123, 0), (9, 0), (124, 0), (7, 0), (10, 0), (5, 0), (8, 0)] h h := xk_re T
  refine xi_aload_n (pc' := 791) (x := 0) kc_195_790 rfl rfl ?_
  refine xi_aload_n (pc' := 792) (x := 1000000) kc_195_791 rfl rfl ?_
  refine xi_iload (pc' := 794) (x := x4) kc_195_792 rfl rfl ?_
  refine xi_iconst (pc' := 795) (v := 1) kc_195_794 rfl rfl ?_
  obtain ⟨v1, ev1⟩ : ∃ q : Int32, x4 + 1 = q := ⟨_, rfl⟩
  have zv1 : v1.toInt = (x4.toInt + 1) := by rw [← ev1]; exact (xz_add (X := x4.toInt) (Y := 1) rfl (by decide) (by omega) (by omega)).trans (by omega)
  refine xi_iadd (pc' := 796) (v := v1) kc_195_795 rfl ev1 ?_
  obtain ⟨a2, ea2⟩ : ∃ q : Int32, xs.getD (Int32.toNatClampNeg v1) 0 = q := ⟨_, rfl⟩
  have ra2 := xc_rng a2
  refine xi_ialoadO (pc' := 797) (v := a2) kc_195_796 rfl (by decide) hov0 (xi_in (by omega) (by omega)) ea2 ?_
  refine xi_aload_n (pc' := 798) (x := 167) kc_195_797 rfl rfl ?_
  obtain ⟨r9, h9, j9, T9, f9, l9, z9⟩ := hoff a2 h T hn
  refine xi_staticJ (mj := 194) (as := [.ref 0, .int a2, .ref 167]) (st1 := []) (r := some (.int r9)) (h' := h9) kc_195_798 rfl rfl (Nat.le_of_ble_eq_true rfl) rfl rfl (Nat.le_of_ble_eq_true rfl) j9 ?_
  have K9 : xk [(6, 0), (123, 0), (9, 0), (124, 0), (7, 0), (10, 0), (5, 0), (8, 0)] h9 h9 := xk_re T9
  have rr9 := xc_rng r9
  show xw J ov 100 195 (801, [(4, .int x4), (3, .ref 167), (2, .ref 115), (1, .ref 0), (0, .ref 1000000)], [.int r9], h9) _
  refine xi_istore (pc' := 803) (lv' := [(5, .int r9), (4, .int x4), (3, .ref 167), (2, .ref 115), (1, .ref 0), (0, .ref 1000000)]) kc_195_801 rfl rfl (xm_lt ml_195 rfl) ?_
  refine xi_aload_n (pc' := 804) (x := 115) kc_195_803 rfl rfl ?_
  refine xi_aload_n (pc' := 805) (x := 1000000) kc_195_804 rfl rfl ?_
  refine xi_iload (pc' := 807) (x := x4) kc_195_805 rfl rfl ?_
  refine xi_iconst (pc' := 808) (v := 1) kc_195_807 rfl rfl ?_
  refine xi_iadd (pc' := 809) (v := v1) kc_195_808 rfl ev1 ?_
  refine xi_ialoadO (pc' := 810) (v := a2) kc_195_809 rfl (by decide) hov0 (xi_in (by omega) (by omega)) ea2 ?_
  obtain ⟨u101, u102, u103, u104, u105, u106, u107, u108, u109, u110, u111, u112, u113, bu101, bu102, bu103, bu104, bu105, bu106, bu107, bu108, bu109, bu110, bu111, bu112, bu113, A114⟩ := xq_115 K9.1
  refine xi_virtual (mj := 41) (as := [.int a2]) (st1 := []) (lv0 := [(0, .ref 115), (1, .int a2)]) kc_195_810 rfl rfl rfl rfl rfl A114 (Nat.le_of_ble_eq_true rfl) (hJ _ _ _ _ (by decide)) (xm_le ml_41 rfl) rfl ?_
  refine mt_41_0 hJ hov1 hov2 (d := 92) (x1 := a2) K9.1 (fun r115 hh116 K117 => ?_)
  have K118 := xk_tr K9 K117 rfl
  obtain ⟨u119, u120, u121, u122, u123, u124, u125, u126, u127, u128, u129, u130, u131, bu119, bu120, bu121, bu122, bu123, bu124, bu125, bu126, bu127, bu128, bu129, bu130, bu131, A132⟩ := xq_115 K118.1
  have e133 : u102 = u120 := xk_eqi (q := 1) K117 rfl A114 A132 rfl rfl
  subst e133
  show xw J ov 100 195 (813, [(5, .int r9), (4, .int x4), (3, .ref 167), (2, .ref 115), (1, .ref 0), (0, .ref 1000000)], [.long r115], hh116) _
  refine xi_lstore (pc' := 815) (lv' := [(6, .long r115), (5, .int r9), (4, .int x4), (3, .ref 167), (2, .ref 115), (1, .ref 0), (0, .ref 1000000)]) kc_195_813 rfl rfl (xm_lt ml_195 rfl) ?_
  refine xi_goto (pc' := 1501) kc_195_815 rfl ?_
  obtain ⟨v134, ev134⟩ : ∃ q : Int32, x4 + 6 = q := ⟨_, rfl⟩
  have zv134 : v134.toInt = (x4.toInt + 6) := by rw [← ev134]; exact (xz_add (X := x4.toInt) (Y := 6) rfl (by decide) (by omega) (by omega)).trans (by omega)
  refine xi_iinc (pc' := 1504) (x := x4) (v := v134) (lv' := [(4, .int v134), (6, .long r115), (5, .int r9), (3, .ref 167), (2, .ref 115), (1, .ref 0), (0, .ref 1000000)]) kc_195_1501 rfl rfl ev134 rfl (xm_lt ml_195 rfl) ?_
  refine xi_goto (pc' := 23) kc_195_1504 rfl ?_
  refine xw_lv (b := [(4, .int v134), (3, .ref 167), (2, .ref 115), (1, .ref 0), (0, .ref 1000000)]) (lvS_cons (lvS_cons (lvS_cons (lvS_cons (lvS_cons (lvS_nil (show ([4, 6, 5, 3, 2, 1, 0] : List Nat).Nodup by decide)) rfl) rfl) rfl) rfl) rfl) ?_
  exact kk v134 hh116 (by omega) K118.1 (fun l hl => (K118.2.1 l hl).trans (f9 l hl)) (by rw [K118.2.2.1]; exact l9) (by rw [K118.2.2.2]; exact z9)
set_option maxHeartbeats 8000000 in
theorem lc_15 {J : xe_J} {ov : List (List Int32)} (hJ : ∀ d mj as h, mj ≠ xe_loff → J d mj as h = none) (hov1 : ov[1]? = some [10, 0, 0, 0, 0, 0]) (hov2 : ov[2]? = some [99, 30, 50, 50, 1, 99999]) {xs : List Int32} (hov0 : ov[0]? = some xs) {Q : Option Value → xe_H → Prop} {h : xe_H} {x4 : Int32} (hi0 : 0 ≤ x4.toInt) (hi1 : x4.toInt + 6 ≤ xs.length) (hi2 : x4.toInt ≤ 3066) (T : xt h) (kk : ∀ (i : Int32) (h' : xe_H), i.toInt = x4.toInt + 6 → xk [(6, 0), (123, 0), (9, 0), (124, 0), (7, 0), (10, 0), (5, 0), (8, 0)] h h' → xw J ov 100 195 (23, [(4, .int i), (3, .ref 167), (2, .ref 115), (1, .ref 0), (0, .ref 1000000)], [], h') Q) : xw J ov 100 195 (818, [(4, .int x4), (3, .ref 167), (2, .ref 115), (1, .ref 0), (0, .ref 1000000)], [], h) Q := by
  have K : xk [(6, 0), (123, 0), (9, 0), (124, 0), (7, 0), (10, 0), (5, 0), (8, 0)] h h := xk_re T
  refine xi_aload_n (pc' := 819) (x := 0) kc_195_818 rfl rfl ?_
  refine xi_aload_n (pc' := 820) (x := 1000000) kc_195_819 rfl rfl ?_
  refine xi_iload (pc' := 822) (x := x4) kc_195_820 rfl rfl ?_
  refine xi_iconst (pc' := 823) (v := 1) kc_195_822 rfl rfl ?_
  obtain ⟨v1, ev1⟩ : ∃ q : Int32, x4 + 1 = q := ⟨_, rfl⟩
  have zv1 : v1.toInt = (x4.toInt + 1) := by rw [← ev1]; exact (xz_add (X := x4.toInt) (Y := 1) rfl (by decide) (by omega) (by omega)).trans (by omega)
  refine xi_iadd (pc' := 824) (v := v1) kc_195_823 rfl ev1 ?_
  obtain ⟨a2, ea2⟩ : ∃ q : Int32, xs.getD (Int32.toNatClampNeg v1) 0 = q := ⟨_, rfl⟩
  have ra2 := xc_rng a2
  refine xi_ialoadO (pc' := 825) (v := a2) kc_195_824 rfl (by decide) hov0 (xi_in (by omega) (by omega)) ea2 ?_
  refine xi_aload_n (pc' := 826) (x := 1000000) kc_195_825 rfl rfl ?_
  refine xi_iload (pc' := 828) (x := x4) kc_195_826 rfl rfl ?_
  refine xi_iconst (pc' := 829) (v := 2) kc_195_828 rfl rfl ?_
  obtain ⟨v3, ev3⟩ : ∃ q : Int32, x4 + 2 = q := ⟨_, rfl⟩
  have zv3 : v3.toInt = (x4.toInt + 2) := by rw [← ev3]; exact (xz_add (X := x4.toInt) (Y := 2) rfl (by decide) (by omega) (by omega)).trans (by omega)
  refine xi_iadd (pc' := 830) (v := v3) kc_195_829 rfl ev3 ?_
  obtain ⟨a4, ea4⟩ : ∃ q : Int32, xs.getD (Int32.toNatClampNeg v3) 0 = q := ⟨_, rfl⟩
  have ra4 := xc_rng a4
  refine xi_ialoadO (pc' := 831) (v := a4) kc_195_830 rfl (by decide) hov0 (xi_in (by omega) (by omega)) ea4 ?_
  obtain ⟨u5, u6, bu5, bu6, A7⟩ := xq_0 K.1
  refine xi_virtual (mj := 137) (as := [.int a2, .int a4]) (st1 := []) (lv0 := [(0, .ref 0), (1, .int a2), (2, .int a4)]) kc_195_831 rfl rfl rfl rfl rfl A7 (Nat.le_of_ble_eq_true rfl) (hJ _ _ _ _ (by decide)) (xm_le ml_137 rfl) rfl ?_
  refine mt_137_0 hJ hov1 hov2 (d := 93) (x1 := a2) (x2 := a4) K.1 (fun r8 hh9 K10 => ?_)
  have br8 := xc_rng r8
  have K11 := xk_tr K K10 rfl
  obtain ⟨u12, u13, bu12, bu13, A14⟩ := xq_0 K11.1
  have e15 : u6 = u13 := xk_eqi (q := 9) K10 rfl A7 A14 rfl rfl
  subst e15
  show xw J ov 100 195 (834, [(4, .int x4), (3, .ref 167), (2, .ref 115), (1, .ref 0), (0, .ref 1000000)], [.int r8], hh9) _
  refine xi_pop (pc' := 835) kc_195_834 rfl rfl ?_
  refine xi_aload_n (pc' := 836) (x := 115) kc_195_835 rfl rfl ?_
  refine xi_aload_n (pc' := 837) (x := 1000000) kc_195_836 rfl rfl ?_
  refine xi_iload (pc' := 839) (x := x4) kc_195_837 rfl rfl ?_
  refine xi_iconst (pc' := 840) (v := 1) kc_195_839 rfl rfl ?_
  refine xi_iadd (pc' := 841) (v := v1) kc_195_840 rfl ev1 ?_
  refine xi_ialoadO (pc' := 842) (v := a2) kc_195_841 rfl (by decide) hov0 (xi_in (by omega) (by omega)) ea2 ?_
  refine xi_aload_n (pc' := 843) (x := 1000000) kc_195_842 rfl rfl ?_
  refine xi_iload (pc' := 845) (x := x4) kc_195_843 rfl rfl ?_
  refine xi_iconst (pc' := 846) (v := 2) kc_195_845 rfl rfl ?_
  refine xi_iadd (pc' := 847) (v := v3) kc_195_846 rfl ev3 ?_
  refine xi_ialoadO (pc' := 848) (v := a4) kc_195_847 rfl (by decide) hov0 (xi_in (by omega) (by omega)) ea4 ?_
  obtain ⟨u16, u17, u18, u19, u20, u21, u22, u23, u24, u25, u26, u27, u28, bu16, bu17, bu18, bu19, bu20, bu21, bu22, bu23, bu24, bu25, bu26, bu27, bu28, A29⟩ := xq_115 K11.1
  refine xi_virtual (mj := 46) (as := [.int a2, .int a4]) (st1 := []) (lv0 := [(0, .ref 115), (1, .int a2), (2, .int a4)]) kc_195_848 rfl rfl rfl rfl rfl A29 (Nat.le_of_ble_eq_true rfl) (hJ _ _ _ _ (by decide)) (xm_le ml_46 rfl) rfl ?_
  refine mt_46_0 hJ hov1 hov2 (d := 93) (x1 := a2) (x2 := a4) K11.1 (fun r30 hh31 K32 => ?_)
  have br30 := xc_rng r30
  have K33 := xk_tr K11 K32 rfl
  obtain ⟨u34, u35, bu34, bu35, A36⟩ := xq_0 K33.1
  have e37 : u6 = u35 := xk_eqi (q := 9) K32 rfl A14 A36 rfl rfl
  subst e37
  obtain ⟨u38, u39, u40, u41, u42, u43, u44, u45, u46, u47, u48, u49, u50, bu38, bu39, bu40, bu41, bu42, bu43, bu44, bu45, bu46, bu47, bu48, bu49, bu50, A51⟩ := xq_115 K33.1
  have e52 : u17 = u39 := xk_eqi (q := 1) K32 rfl A29 A51 rfl rfl
  subst e52
  show xw J ov 100 195 (851, [(4, .int x4), (3, .ref 167), (2, .ref 115), (1, .ref 0), (0, .ref 1000000)], [.int r30], hh31) _
  refine xi_pop (pc' := 852) kc_195_851 rfl rfl ?_
  refine xi_goto (pc' := 1501) kc_195_852 rfl ?_
  obtain ⟨v53, ev53⟩ : ∃ q : Int32, x4 + 6 = q := ⟨_, rfl⟩
  have zv53 : v53.toInt = (x4.toInt + 6) := by rw [← ev53]; exact (xz_add (X := x4.toInt) (Y := 6) rfl (by decide) (by omega) (by omega)).trans (by omega)
  refine xi_iinc (pc' := 1504) (x := x4) (v := v53) (lv' := [(4, .int v53), (3, .ref 167), (2, .ref 115), (1, .ref 0), (0, .ref 1000000)]) kc_195_1501 rfl rfl ev53 rfl (xm_lt ml_195 rfl) ?_
  refine xi_goto (pc' := 23) kc_195_1504 rfl ?_
  exact kk v53 hh31 (by omega) K33
set_option maxHeartbeats 8000000 in
theorem lc_16 {J : xe_J} {ov : List (List Int32)} (hJ : ∀ d mj as h, mj ≠ xe_loff → J d mj as h = none) (hov1 : ov[1]? = some [10, 0, 0, 0, 0, 0]) (hov2 : ov[2]? = some [99, 30, 50, 50, 1, 99999]) {xs : List Int32} (hov0 : ov[0]? = some xs) {Q : Option Value → xe_H → Prop} {h : xe_H} {x4 : Int32} (hi0 : 0 ≤ x4.toInt) (hi1 : x4.toInt + 6 ≤ xs.length) (hi2 : x4.toInt ≤ 3066) (T : xt h) (kk : ∀ (i : Int32) (h' : xe_H), i.toInt = x4.toInt + 6 → xk [(6, 0), (123, 0), (9, 0), (124, 0), (7, 0), (10, 0), (5, 0), (8, 0)] h h' → xw J ov 100 195 (23, [(4, .int i), (3, .ref 167), (2, .ref 115), (1, .ref 0), (0, .ref 1000000)], [], h') Q) : xw J ov 100 195 (855, [(4, .int x4), (3, .ref 167), (2, .ref 115), (1, .ref 0), (0, .ref 1000000)], [], h) Q := by
  have K : xk [(6, 0), (123, 0), (9, 0), (124, 0), (7, 0), (10, 0), (5, 0), (8, 0)] h h := xk_re T
  refine xi_aload_n (pc' := 856) (x := 0) kc_195_855 rfl rfl ?_
  obtain ⟨u1, u2, bu1, bu2, A3⟩ := xq_0 K.1
  refine xi_virtual (mj := 144) (as := []) (st1 := []) (lv0 := [(0, .ref 0)]) kc_195_856 rfl rfl rfl rfl rfl A3 (Nat.le_of_ble_eq_true rfl) (hJ _ _ _ _ (by decide)) (xm_le ml_144 rfl) rfl ?_
  refine mt_144_0 hJ hov1 hov2 (d := 92)  K.1 (fun r4 hh5 br4 K6 => ?_)
  have K7 := xk_tr K K6 rfl
  obtain ⟨u8, u9, bu8, bu9, A10⟩ := xq_0 K7.1
  have e11 : u2 = u9 := xk_eqi (q := 9) K6 rfl A3 A10 rfl rfl
  subst e11
  show xw J ov 100 195 (859, [(4, .int x4), (3, .ref 167), (2, .ref 115), (1, .ref 0), (0, .ref 1000000)], [.int r4], hh5) _
  refine xi_pop (pc' := 860) kc_195_859 rfl rfl ?_
  refine xi_aload_n (pc' := 861) (x := 115) kc_195_860 rfl rfl ?_
  obtain ⟨u12, u13, u14, u15, u16, u17, u18, u19, u20, u21, u22, u23, u24, bu12, bu13, bu14, bu15, bu16, bu17, bu18, bu19, bu20, bu21, bu22, bu23, bu24, A25⟩ := xq_115 K7.1
  refine xi_virtual (mj := 47) (as := []) (st1 := []) (lv0 := [(0, .ref 115)]) kc_195_861 rfl rfl rfl rfl rfl A25 (Nat.le_of_ble_eq_true rfl) (hJ _ _ _ _ (by decide)) (xm_le ml_47 rfl) rfl ?_
  refine mt_47_0 hJ hov1 hov2 (d := 91)  K7.1 (fun r26 hh27 br26 K28 => ?_)
  have K29 := xk_tr K7 K28 rfl
  obtain ⟨u30, u31, bu30, bu31, A32⟩ := xq_0 K29.1
  have e33 : u2 = u31 := xk_eqi (q := 9) K28 rfl A10 A32 rfl rfl
  subst e33
  obtain ⟨u34, u35, u36, u37, u38, u39, u40, u41, u42, u43, u44, u45, u46, bu34, bu35, bu36, bu37, bu38, bu39, bu40, bu41, bu42, bu43, bu44, bu45, bu46, A47⟩ := xq_115 K29.1
  have e48 : u13 = u35 := xk_eqi (q := 1) K28 rfl A25 A47 rfl rfl
  subst e48
  show xw J ov 100 195 (864, [(4, .int x4), (3, .ref 167), (2, .ref 115), (1, .ref 0), (0, .ref 1000000)], [.int r26], hh27) _
  refine xi_pop (pc' := 865) kc_195_864 rfl rfl ?_
  refine xi_goto (pc' := 1501) kc_195_865 rfl ?_
  obtain ⟨v49, ev49⟩ : ∃ q : Int32, x4 + 6 = q := ⟨_, rfl⟩
  have zv49 : v49.toInt = (x4.toInt + 6) := by rw [← ev49]; exact (xz_add (X := x4.toInt) (Y := 6) rfl (by decide) (by omega) (by omega)).trans (by omega)
  refine xi_iinc (pc' := 1504) (x := x4) (v := v49) (lv' := [(4, .int v49), (3, .ref 167), (2, .ref 115), (1, .ref 0), (0, .ref 1000000)]) kc_195_1501 rfl rfl ev49 rfl (xm_lt ml_195 rfl) ?_
  refine xi_goto (pc' := 23) kc_195_1504 rfl ?_
  exact kk v49 hh27 (by omega) K29
set_option maxHeartbeats 8000000 in
theorem lc_17 {J : xe_J} {ov : List (List Int32)} (hJ : ∀ d mj as h, mj ≠ xe_loff → J d mj as h = none) (hov1 : ov[1]? = some [10, 0, 0, 0, 0, 0]) (hov2 : ov[2]? = some [99, 30, 50, 50, 1, 99999]) {xs : List Int32} (hov0 : ov[0]? = some xs) {Q : Option Value → xe_H → Prop} {h : xe_H} {x4 : Int32} (hi0 : 0 ≤ x4.toInt) (hi1 : x4.toInt + 6 ≤ xs.length) (hi2 : x4.toInt ≤ 3066) (T : xt h) (kk : ∀ (i : Int32) (h' : xe_H), i.toInt = x4.toInt + 6 → xk [(6, 0), (123, 0), (9, 0), (124, 0), (7, 0), (10, 0), (5, 0), (8, 0)] h h' → xw J ov 100 195 (23, [(4, .int i), (3, .ref 167), (2, .ref 115), (1, .ref 0), (0, .ref 1000000)], [], h') Q) : xw J ov 100 195 (868, [(4, .int x4), (3, .ref 167), (2, .ref 115), (1, .ref 0), (0, .ref 1000000)], [], h) Q := by
  have K : xk [(6, 0), (123, 0), (9, 0), (124, 0), (7, 0), (10, 0), (5, 0), (8, 0)] h h := xk_re T
  refine xi_aload_n (pc' := 869) (x := 0) kc_195_868 rfl rfl ?_
  refine xi_aload_n (pc' := 870) (x := 1000000) kc_195_869 rfl rfl ?_
  refine xi_iload (pc' := 872) (x := x4) kc_195_870 rfl rfl ?_
  refine xi_iconst (pc' := 873) (v := 1) kc_195_872 rfl rfl ?_
  obtain ⟨v1, ev1⟩ : ∃ q : Int32, x4 + 1 = q := ⟨_, rfl⟩
  have zv1 : v1.toInt = (x4.toInt + 1) := by rw [← ev1]; exact (xz_add (X := x4.toInt) (Y := 1) rfl (by decide) (by omega) (by omega)).trans (by omega)
  refine xi_iadd (pc' := 874) (v := v1) kc_195_873 rfl ev1 ?_
  obtain ⟨a2, ea2⟩ : ∃ q : Int32, xs.getD (Int32.toNatClampNeg v1) 0 = q := ⟨_, rfl⟩
  have ra2 := xc_rng a2
  refine xi_ialoadO (pc' := 875) (v := a2) kc_195_874 rfl (by decide) hov0 (xi_in (by omega) (by omega)) ea2 ?_
  obtain ⟨u3, u4, bu3, bu4, A5⟩ := xq_0 K.1
  refine xi_virtual (mj := 148) (as := [.int a2]) (st1 := []) (lv0 := [(0, .ref 0), (1, .int a2)]) kc_195_875 rfl rfl rfl rfl rfl A5 (Nat.le_of_ble_eq_true rfl) (hJ _ _ _ _ (by decide)) (xm_le ml_148 rfl) rfl ?_
  refine mt_148_0 hJ hov1 hov2 (d := 92) (x1 := a2) K.1 (fun r6 hh7 K8 => ?_)
  have br6 := xc_rng r6
  have K9 := xk_tr K K8 rfl
  obtain ⟨u10, u11, bu10, bu11, A12⟩ := xq_0 K9.1
  have e13 : u4 = u11 := xk_eqi (q := 9) K8 rfl A5 A12 rfl rfl
  subst e13
  show xw J ov 100 195 (878, [(4, .int x4), (3, .ref 167), (2, .ref 115), (1, .ref 0), (0, .ref 1000000)], [.int r6], hh7) _
  refine xi_pop (pc' := 879) kc_195_878 rfl rfl ?_
  refine xi_aload_n (pc' := 880) (x := 115) kc_195_879 rfl rfl ?_
  refine xi_aload_n (pc' := 881) (x := 1000000) kc_195_880 rfl rfl ?_
  refine xi_iload (pc' := 883) (x := x4) kc_195_881 rfl rfl ?_
  refine xi_iconst (pc' := 884) (v := 1) kc_195_883 rfl rfl ?_
  refine xi_iadd (pc' := 885) (v := v1) kc_195_884 rfl ev1 ?_
  refine xi_ialoadO (pc' := 886) (v := a2) kc_195_885 rfl (by decide) hov0 (xi_in (by omega) (by omega)) ea2 ?_
  obtain ⟨u14, u15, u16, u17, u18, u19, u20, u21, u22, u23, u24, u25, u26, bu14, bu15, bu16, bu17, bu18, bu19, bu20, bu21, bu22, bu23, bu24, bu25, bu26, A27⟩ := xq_115 K9.1
  refine xi_virtual (mj := 50) (as := [.int a2]) (st1 := []) (lv0 := [(0, .ref 115), (1, .int a2)]) kc_195_886 rfl rfl rfl rfl rfl A27 (Nat.le_of_ble_eq_true rfl) (hJ _ _ _ _ (by decide)) (xm_le ml_50 rfl) rfl ?_
  refine mt_50_0 hJ hov1 hov2 (d := 92) (x1 := a2) K9.1 (fun r28 hh29 K30 => ?_)
  have br28 := xc_rng r28
  have K31 := xk_tr K9 K30 rfl
  obtain ⟨u32, u33, bu32, bu33, A34⟩ := xq_0 K31.1
  have e35 : u4 = u33 := xk_eqi (q := 9) K30 rfl A12 A34 rfl rfl
  subst e35
  obtain ⟨u36, u37, u38, u39, u40, u41, u42, u43, u44, u45, u46, u47, u48, bu36, bu37, bu38, bu39, bu40, bu41, bu42, bu43, bu44, bu45, bu46, bu47, bu48, A49⟩ := xq_115 K31.1
  have e50 : u15 = u37 := xk_eqi (q := 1) K30 rfl A27 A49 rfl rfl
  subst e50
  show xw J ov 100 195 (889, [(4, .int x4), (3, .ref 167), (2, .ref 115), (1, .ref 0), (0, .ref 1000000)], [.int r28], hh29) _
  refine xi_pop (pc' := 890) kc_195_889 rfl rfl ?_
  refine xi_goto (pc' := 1501) kc_195_890 rfl ?_
  obtain ⟨v51, ev51⟩ : ∃ q : Int32, x4 + 6 = q := ⟨_, rfl⟩
  have zv51 : v51.toInt = (x4.toInt + 6) := by rw [← ev51]; exact (xz_add (X := x4.toInt) (Y := 6) rfl (by decide) (by omega) (by omega)).trans (by omega)
  refine xi_iinc (pc' := 1504) (x := x4) (v := v51) (lv' := [(4, .int v51), (3, .ref 167), (2, .ref 115), (1, .ref 0), (0, .ref 1000000)]) kc_195_1501 rfl rfl ev51 rfl (xm_lt ml_195 rfl) ?_
  refine xi_goto (pc' := 23) kc_195_1504 rfl ?_
  exact kk v51 hh29 (by omega) K31
set_option maxHeartbeats 8000000 in
theorem lc_18 {J : xe_J} {ov : List (List Int32)} (hJ : ∀ d mj as h, mj ≠ xe_loff → J d mj as h = none) (hov1 : ov[1]? = some [10, 0, 0, 0, 0, 0]) (hov2 : ov[2]? = some [99, 30, 50, 50, 1, 99999]) {xs : List Int32} (hov0 : ov[0]? = some xs) {Q : Option Value → xe_H → Prop} {h : xe_H} {x4 : Int32} (hi0 : 0 ≤ x4.toInt) (hi1 : x4.toInt + 6 ≤ xs.length) (hi2 : x4.toInt ≤ 3066) (T : xt h) (kk : ∀ (i : Int32) (h' : xe_H), i.toInt = x4.toInt + 6 → xk [(6, 0), (123, 0), (9, 0), (124, 0), (7, 0), (10, 0), (5, 0), (8, 0)] h h' → xw J ov 100 195 (23, [(4, .int i), (3, .ref 167), (2, .ref 115), (1, .ref 0), (0, .ref 1000000)], [], h') Q) : xw J ov 100 195 (893, [(4, .int x4), (3, .ref 167), (2, .ref 115), (1, .ref 0), (0, .ref 1000000)], [], h) Q := by
  have K : xk [(6, 0), (123, 0), (9, 0), (124, 0), (7, 0), (10, 0), (5, 0), (8, 0)] h h := xk_re T
  refine xi_aload_n (pc' := 894) (x := 0) kc_195_893 rfl rfl ?_
  obtain ⟨u1, u2, bu1, bu2, A3⟩ := xq_0 K.1
  refine xi_virtual (mj := 151) (as := []) (st1 := []) (lv0 := [(0, .ref 0)]) kc_195_894 rfl rfl rfl rfl rfl A3 (Nat.le_of_ble_eq_true rfl) (hJ _ _ _ _ (by decide)) (xm_le ml_151 rfl) rfl ?_
  refine mt_151_0 hJ hov1 hov2 (d := 91)  K.1 (fun r4 hh5 K6 => ?_)
  have br4 := xc_rng r4
  have K7 := xk_tr K K6 rfl
  obtain ⟨u8, u9, bu8, bu9, A10⟩ := xq_0 K7.1
  have e11 : u2 = u9 := xk_eqi (q := 9) K6 rfl A3 A10 rfl rfl
  subst e11
  show xw J ov 100 195 (897, [(4, .int x4), (3, .ref 167), (2, .ref 115), (1, .ref 0), (0, .ref 1000000)], [.int r4], hh5) _
  refine xi_pop (pc' := 898) kc_195_897 rfl rfl ?_
  refine xi_aload_n (pc' := 899) (x := 115) kc_195_898 rfl rfl ?_
  obtain ⟨u12, u13, u14, u15, u16, u17, u18, u19, u20, u21, u22, u23, u24, bu12, bu13, bu14, bu15, bu16, bu17, bu18, bu19, bu20, bu21, bu22, bu23, bu24, A25⟩ := xq_115 K7.1
  refine xi_virtual (mj := 51) (as := []) (st1 := []) (lv0 := [(0, .ref 115)]) kc_195_899 rfl rfl rfl rfl rfl A25 (Nat.le_of_ble_eq_true rfl) (hJ _ _ _ _ (by decide)) (xm_le ml_51 rfl) rfl ?_
  refine mt_51_0 hJ hov1 hov2 (d := 91)  K7.1 (fun r26 hh27 K28 => ?_)
  have br26 := xc_rng r26
  have K29 := xk_tr K7 K28 rfl
  obtain ⟨u30, u31, bu30, bu31, A32⟩ := xq_0 K29.1
  have e33 : u2 = u31 := xk_eqi (q := 9) K28 rfl A10 A32 rfl rfl
  subst e33
  obtain ⟨u34, u35, u36, u37, u38, u39, u40, u41, u42, u43, u44, u45, u46, bu34, bu35, bu36, bu37, bu38, bu39, bu40, bu41, bu42, bu43, bu44, bu45, bu46, A47⟩ := xq_115 K29.1
  have e48 : u13 = u35 := xk_eqi (q := 1) K28 rfl A25 A47 rfl rfl
  subst e48
  show xw J ov 100 195 (902, [(4, .int x4), (3, .ref 167), (2, .ref 115), (1, .ref 0), (0, .ref 1000000)], [.int r26], hh27) _
  refine xi_pop (pc' := 903) kc_195_902 rfl rfl ?_
  refine xi_goto (pc' := 1501) kc_195_903 rfl ?_
  obtain ⟨v49, ev49⟩ : ∃ q : Int32, x4 + 6 = q := ⟨_, rfl⟩
  have zv49 : v49.toInt = (x4.toInt + 6) := by rw [← ev49]; exact (xz_add (X := x4.toInt) (Y := 6) rfl (by decide) (by omega) (by omega)).trans (by omega)
  refine xi_iinc (pc' := 1504) (x := x4) (v := v49) (lv' := [(4, .int v49), (3, .ref 167), (2, .ref 115), (1, .ref 0), (0, .ref 1000000)]) kc_195_1501 rfl rfl ev49 rfl (xm_lt ml_195 rfl) ?_
  refine xi_goto (pc' := 23) kc_195_1504 rfl ?_
  exact kk v49 hh27 (by omega) K29
set_option maxHeartbeats 8000000 in
theorem lc_19 {J : xe_J} {ov : List (List Int32)} (hJ : ∀ d mj as h, mj ≠ xe_loff → J d mj as h = none) (hov1 : ov[1]? = some [10, 0, 0, 0, 0, 0]) (hov2 : ov[2]? = some [99, 30, 50, 50, 1, 99999]) {xs : List Int32} (hov0 : ov[0]? = some xs) {Q : Option Value → xe_H → Prop} {h : xe_H} {x4 : Int32} (hi0 : 0 ≤ x4.toInt) (hi1 : x4.toInt + 6 ≤ xs.length) (hi2 : x4.toInt ≤ 3066) (T : xt h) (kk : ∀ (i : Int32) (h' : xe_H), i.toInt = x4.toInt + 6 → xk [(6, 0), (123, 0), (9, 0), (124, 0), (7, 0), (10, 0), (5, 0), (8, 0)] h h' → xw J ov 100 195 (23, [(4, .int i), (3, .ref 167), (2, .ref 115), (1, .ref 0), (0, .ref 1000000)], [], h') Q) : xw J ov 100 195 (906, [(4, .int x4), (3, .ref 167), (2, .ref 115), (1, .ref 0), (0, .ref 1000000)], [], h) Q := by
  have K : xk [(6, 0), (123, 0), (9, 0), (124, 0), (7, 0), (10, 0), (5, 0), (8, 0)] h h := xk_re T
  refine xi_aload_n (pc' := 907) (x := 0) kc_195_906 rfl rfl ?_
  refine xi_aload_n (pc' := 908) (x := 1000000) kc_195_907 rfl rfl ?_
  refine xi_iload (pc' := 910) (x := x4) kc_195_908 rfl rfl ?_
  refine xi_iconst (pc' := 911) (v := 1) kc_195_910 rfl rfl ?_
  obtain ⟨v1, ev1⟩ : ∃ q : Int32, x4 + 1 = q := ⟨_, rfl⟩
  have zv1 : v1.toInt = (x4.toInt + 1) := by rw [← ev1]; exact (xz_add (X := x4.toInt) (Y := 1) rfl (by decide) (by omega) (by omega)).trans (by omega)
  refine xi_iadd (pc' := 912) (v := v1) kc_195_911 rfl ev1 ?_
  obtain ⟨a2, ea2⟩ : ∃ q : Int32, xs.getD (Int32.toNatClampNeg v1) 0 = q := ⟨_, rfl⟩
  have ra2 := xc_rng a2
  refine xi_ialoadO (pc' := 913) (v := a2) kc_195_912 rfl (by decide) hov0 (xi_in (by omega) (by omega)) ea2 ?_
  refine xi_aload_n (pc' := 914) (x := 1000000) kc_195_913 rfl rfl ?_
  refine xi_iload (pc' := 916) (x := x4) kc_195_914 rfl rfl ?_
  refine xi_iconst (pc' := 917) (v := 2) kc_195_916 rfl rfl ?_
  obtain ⟨v3, ev3⟩ : ∃ q : Int32, x4 + 2 = q := ⟨_, rfl⟩
  have zv3 : v3.toInt = (x4.toInt + 2) := by rw [← ev3]; exact (xz_add (X := x4.toInt) (Y := 2) rfl (by decide) (by omega) (by omega)).trans (by omega)
  refine xi_iadd (pc' := 918) (v := v3) kc_195_917 rfl ev3 ?_
  obtain ⟨a4, ea4⟩ : ∃ q : Int32, xs.getD (Int32.toNatClampNeg v3) 0 = q := ⟨_, rfl⟩
  have ra4 := xc_rng a4
  refine xi_ialoadO (pc' := 919) (v := a4) kc_195_918 rfl (by decide) hov0 (xi_in (by omega) (by omega)) ea4 ?_
  obtain ⟨u5, u6, bu5, bu6, A7⟩ := xq_0 K.1
  refine xi_virtual (mj := 155) (as := [.int a2, .int a4]) (st1 := []) (lv0 := [(0, .ref 0), (1, .int a2), (2, .int a4)]) kc_195_919 rfl rfl rfl rfl rfl A7 (Nat.le_of_ble_eq_true rfl) (hJ _ _ _ _ (by decide)) (xm_le ml_155 rfl) rfl ?_
  refine mt_155_0 hJ hov1 hov2 (d := 97) (x1 := a2) (x2 := a4) K.1 (fun r8 hh9 br8 K10 => ?_)
  have K11 := xk_tr K K10 rfl
  obtain ⟨u12, u13, bu12, bu13, A14⟩ := xq_0 K11.1
  have e15 : u6 = u13 := xk_eqi (q := 9) K10 rfl A7 A14 rfl rfl
  subst e15
  show xw J ov 100 195 (922, [(4, .int x4), (3, .ref 167), (2, .ref 115), (1, .ref 0), (0, .ref 1000000)], [.int r8], hh9) _
  refine xi_pop (pc' := 923) kc_195_922 rfl rfl ?_
  refine xi_aload_n (pc' := 924) (x := 115) kc_195_923 rfl rfl ?_
  refine xi_aload_n (pc' := 925) (x := 1000000) kc_195_924 rfl rfl ?_
  refine xi_iload (pc' := 927) (x := x4) kc_195_925 rfl rfl ?_
  refine xi_iconst (pc' := 928) (v := 1) kc_195_927 rfl rfl ?_
  refine xi_iadd (pc' := 929) (v := v1) kc_195_928 rfl ev1 ?_
  refine xi_ialoadO (pc' := 930) (v := a2) kc_195_929 rfl (by decide) hov0 (xi_in (by omega) (by omega)) ea2 ?_
  refine xi_aload_n (pc' := 931) (x := 1000000) kc_195_930 rfl rfl ?_
  refine xi_iload (pc' := 933) (x := x4) kc_195_931 rfl rfl ?_
  refine xi_iconst (pc' := 934) (v := 2) kc_195_933 rfl rfl ?_
  refine xi_iadd (pc' := 935) (v := v3) kc_195_934 rfl ev3 ?_
  refine xi_ialoadO (pc' := 936) (v := a4) kc_195_935 rfl (by decide) hov0 (xi_in (by omega) (by omega)) ea4 ?_
  obtain ⟨u16, u17, u18, u19, u20, u21, u22, u23, u24, u25, u26, u27, u28, bu16, bu17, bu18, bu19, bu20, bu21, bu22, bu23, bu24, bu25, bu26, bu27, bu28, A29⟩ := xq_115 K11.1
  refine xi_virtual (mj := 55) (as := [.int a2, .int a4]) (st1 := []) (lv0 := [(0, .ref 115), (1, .int a2), (2, .int a4)]) kc_195_936 rfl rfl rfl rfl rfl A29 (Nat.le_of_ble_eq_true rfl) (hJ _ _ _ _ (by decide)) (xm_le ml_55 rfl) rfl ?_
  refine mt_55_0 hJ hov1 hov2 (d := 98) (x1 := a2) (x2 := a4) K11.1 (fun r30 hh31 br30 K32 => ?_)
  have K33 := xk_tr K11 K32 rfl
  obtain ⟨u34, u35, bu34, bu35, A36⟩ := xq_0 K33.1
  have e37 : u6 = u35 := xk_eqi (q := 9) K32 rfl A14 A36 rfl rfl
  subst e37
  obtain ⟨u38, u39, u40, u41, u42, u43, u44, u45, u46, u47, u48, u49, u50, bu38, bu39, bu40, bu41, bu42, bu43, bu44, bu45, bu46, bu47, bu48, bu49, bu50, A51⟩ := xq_115 K33.1
  have e52 : u17 = u39 := xk_eqi (q := 1) K32 rfl A29 A51 rfl rfl
  subst e52
  show xw J ov 100 195 (939, [(4, .int x4), (3, .ref 167), (2, .ref 115), (1, .ref 0), (0, .ref 1000000)], [.int r30], hh31) _
  refine xi_pop (pc' := 940) kc_195_939 rfl rfl ?_
  refine xi_goto (pc' := 1501) kc_195_940 rfl ?_
  obtain ⟨v53, ev53⟩ : ∃ q : Int32, x4 + 6 = q := ⟨_, rfl⟩
  have zv53 : v53.toInt = (x4.toInt + 6) := by rw [← ev53]; exact (xz_add (X := x4.toInt) (Y := 6) rfl (by decide) (by omega) (by omega)).trans (by omega)
  refine xi_iinc (pc' := 1504) (x := x4) (v := v53) (lv' := [(4, .int v53), (3, .ref 167), (2, .ref 115), (1, .ref 0), (0, .ref 1000000)]) kc_195_1501 rfl rfl ev53 rfl (xm_lt ml_195 rfl) ?_
  refine xi_goto (pc' := 23) kc_195_1504 rfl ?_
  exact kk v53 hh31 (by omega) K33
set_option maxHeartbeats 8000000 in
theorem lc_20 {J : xe_J} {ov : List (List Int32)} (hJ : ∀ d mj as h, mj ≠ xe_loff → J d mj as h = none) (hov1 : ov[1]? = some [10, 0, 0, 0, 0, 0]) (hov2 : ov[2]? = some [99, 30, 50, 50, 1, 99999]) {xs : List Int32} (hov0 : ov[0]? = some xs) {Q : Option Value → xe_H → Prop} {h : xe_H} {x4 : Int32} (hi0 : 0 ≤ x4.toInt) (hi1 : x4.toInt + 6 ≤ xs.length) (hi2 : x4.toInt ≤ 3066) (T : xt h) (kk : ∀ (i : Int32) (h' : xe_H), i.toInt = x4.toInt + 6 → xk [(6, 0), (123, 0), (9, 0), (124, 0), (7, 0), (10, 0), (5, 0), (8, 0)] h h' → xw J ov 100 195 (23, [(4, .int i), (3, .ref 167), (2, .ref 115), (1, .ref 0), (0, .ref 1000000)], [], h') Q) : xw J ov 100 195 (943, [(4, .int x4), (3, .ref 167), (2, .ref 115), (1, .ref 0), (0, .ref 1000000)], [], h) Q := by
  have K : xk [(6, 0), (123, 0), (9, 0), (124, 0), (7, 0), (10, 0), (5, 0), (8, 0)] h h := xk_re T
  refine xi_aload_n (pc' := 944) (x := 0) kc_195_943 rfl rfl ?_
  refine xi_aload_n (pc' := 945) (x := 1000000) kc_195_944 rfl rfl ?_
  refine xi_iload (pc' := 947) (x := x4) kc_195_945 rfl rfl ?_
  refine xi_iconst (pc' := 948) (v := 1) kc_195_947 rfl rfl ?_
  obtain ⟨v1, ev1⟩ : ∃ q : Int32, x4 + 1 = q := ⟨_, rfl⟩
  have zv1 : v1.toInt = (x4.toInt + 1) := by rw [← ev1]; exact (xz_add (X := x4.toInt) (Y := 1) rfl (by decide) (by omega) (by omega)).trans (by omega)
  refine xi_iadd (pc' := 949) (v := v1) kc_195_948 rfl ev1 ?_
  obtain ⟨a2, ea2⟩ : ∃ q : Int32, xs.getD (Int32.toNatClampNeg v1) 0 = q := ⟨_, rfl⟩
  have ra2 := xc_rng a2
  refine xi_ialoadO (pc' := 950) (v := a2) kc_195_949 rfl (by decide) hov0 (xi_in (by omega) (by omega)) ea2 ?_
  refine xi_aload_n (pc' := 951) (x := 1000000) kc_195_950 rfl rfl ?_
  refine xi_iload (pc' := 953) (x := x4) kc_195_951 rfl rfl ?_
  refine xi_iconst (pc' := 954) (v := 2) kc_195_953 rfl rfl ?_
  obtain ⟨v3, ev3⟩ : ∃ q : Int32, x4 + 2 = q := ⟨_, rfl⟩
  have zv3 : v3.toInt = (x4.toInt + 2) := by rw [← ev3]; exact (xz_add (X := x4.toInt) (Y := 2) rfl (by decide) (by omega) (by omega)).trans (by omega)
  refine xi_iadd (pc' := 955) (v := v3) kc_195_954 rfl ev3 ?_
  obtain ⟨a4, ea4⟩ : ∃ q : Int32, xs.getD (Int32.toNatClampNeg v3) 0 = q := ⟨_, rfl⟩
  have ra4 := xc_rng a4
  refine xi_ialoadO (pc' := 956) (v := a4) kc_195_955 rfl (by decide) hov0 (xi_in (by omega) (by omega)) ea4 ?_
  by_cases c5 : a4.toInt = 0
  · refine xi_ift (pc' := 963) kc_195_956 rfl (xc_eq_t (X := a4.toInt) (Y := 0) rfl (by decide) (by omega)) ?_
    refine xi_iconst (pc' := 964) (v := 0) kc_195_963 rfl rfl ?_
    obtain ⟨u6, u7, bu6, bu7, A8⟩ := xq_0 K.1
    refine xi_virtual (mj := 157) (as := [.int a2, .int 0]) (st1 := []) (lv0 := [(0, .ref 0), (1, .int a2), (2, .int 0)]) kc_195_964 rfl rfl rfl rfl rfl A8 (Nat.le_of_ble_eq_true rfl) (hJ _ _ _ _ (by decide)) (xm_le ml_157 rfl) rfl ?_
    have zc0 : (0 : Int32).toInt = 0 := by decide
    refine mt_157_0 hJ hov1 hov2 (d := 91) (x1 := a2) (x2 := 0) K.1 (by first | omega | decide) (fun r9 hh10 K11 => ?_)
    have br9 := xc_rng r9
    have K12 := xk_tr K K11 rfl
    obtain ⟨u13, u14, bu13, bu14, A15⟩ := xq_0 K12.1
    have e16 : u7 = u14 := xk_eqi (q := 9) K11 rfl A8 A15 rfl rfl
    subst e16
    show xw J ov 100 195 (967, [(4, .int x4), (3, .ref 167), (2, .ref 115), (1, .ref 0), (0, .ref 1000000)], [.int r9], hh10) _
    refine xi_pop (pc' := 968) kc_195_967 rfl rfl ?_
    refine xi_aload_n (pc' := 969) (x := 115) kc_195_968 rfl rfl ?_
    refine xi_aload_n (pc' := 970) (x := 1000000) kc_195_969 rfl rfl ?_
    refine xi_iload (pc' := 972) (x := x4) kc_195_970 rfl rfl ?_
    refine xi_iconst (pc' := 973) (v := 1) kc_195_972 rfl rfl ?_
    refine xi_iadd (pc' := 974) (v := v1) kc_195_973 rfl ev1 ?_
    refine xi_ialoadO (pc' := 975) (v := a2) kc_195_974 rfl (by decide) hov0 (xi_in (by omega) (by omega)) ea2 ?_
    refine xi_aload_n (pc' := 976) (x := 1000000) kc_195_975 rfl rfl ?_
    refine xi_iload (pc' := 978) (x := x4) kc_195_976 rfl rfl ?_
    refine xi_iconst (pc' := 979) (v := 2) kc_195_978 rfl rfl ?_
    refine xi_iadd (pc' := 980) (v := v3) kc_195_979 rfl ev3 ?_
    refine xi_ialoadO (pc' := 981) (v := a4) kc_195_980 rfl (by decide) hov0 (xi_in (by omega) (by omega)) ea4 ?_
    refine xi_ift (pc' := 988) kc_195_981 rfl (xc_eq_t (X := a4.toInt) (Y := 0) rfl (by decide) (by omega)) ?_
    refine xi_iconst (pc' := 989) (v := 0) kc_195_988 rfl rfl ?_
    obtain ⟨u17, u18, u19, u20, u21, u22, u23, u24, u25, u26, u27, u28, u29, bu17, bu18, bu19, bu20, bu21, bu22, bu23, bu24, bu25, bu26, bu27, bu28, bu29, A30⟩ := xq_115 K12.1
    refine xi_virtual (mj := 56) (as := [.int a2, .int 0]) (st1 := []) (lv0 := [(0, .ref 115), (1, .int a2), (2, .int 0)]) kc_195_989 rfl rfl rfl rfl rfl A30 (Nat.le_of_ble_eq_true rfl) (hJ _ _ _ _ (by decide)) (xm_le ml_56 rfl) rfl ?_
    have zc0 : (0 : Int32).toInt = 0 := by decide
    refine mt_56_0 hJ hov1 hov2 (d := 91) (x1 := a2) (x2 := 0) K12.1 (by first | omega | decide) (fun r31 hh32 K33 => ?_)
    have br31 := xc_rng r31
    have K34 := xk_tr K12 K33 rfl
    obtain ⟨u35, u36, bu35, bu36, A37⟩ := xq_0 K34.1
    have e38 : u7 = u36 := xk_eqi (q := 9) K33 rfl A15 A37 rfl rfl
    subst e38
    obtain ⟨u39, u40, u41, u42, u43, u44, u45, u46, u47, u48, u49, u50, u51, bu39, bu40, bu41, bu42, bu43, bu44, bu45, bu46, bu47, bu48, bu49, bu50, bu51, A52⟩ := xq_115 K34.1
    have e53 : u18 = u40 := xk_eqi (q := 1) K33 rfl A30 A52 rfl rfl
    subst e53
    show xw J ov 100 195 (992, [(4, .int x4), (3, .ref 167), (2, .ref 115), (1, .ref 0), (0, .ref 1000000)], [.int r31], hh32) _
    refine xi_pop (pc' := 993) kc_195_992 rfl rfl ?_
    refine xi_goto (pc' := 1501) kc_195_993 rfl ?_
    obtain ⟨v54, ev54⟩ : ∃ q : Int32, x4 + 6 = q := ⟨_, rfl⟩
    have zv54 : v54.toInt = (x4.toInt + 6) := by rw [← ev54]; exact (xz_add (X := x4.toInt) (Y := 6) rfl (by decide) (by omega) (by omega)).trans (by omega)
    refine xi_iinc (pc' := 1504) (x := x4) (v := v54) (lv' := [(4, .int v54), (3, .ref 167), (2, .ref 115), (1, .ref 0), (0, .ref 1000000)]) kc_195_1501 rfl rfl ev54 rfl (xm_lt ml_195 rfl) ?_
    refine xi_goto (pc' := 23) kc_195_1504 rfl ?_
    exact kk v54 hh32 (by omega) K34
  · refine xi_iff (pc' := 959) kc_195_956 rfl (xc_eq_f (X := a4.toInt) (Y := 0) rfl (by decide) (by omega)) ?_
    refine xi_iconst (pc' := 960) (v := 1) kc_195_959 rfl rfl ?_
    refine xi_goto (pc' := 964) kc_195_960 rfl ?_
    obtain ⟨u55, u56, bu55, bu56, A57⟩ := xq_0 K.1
    refine xi_virtual (mj := 157) (as := [.int a2, .int 1]) (st1 := []) (lv0 := [(0, .ref 0), (1, .int a2), (2, .int 1)]) kc_195_964 rfl rfl rfl rfl rfl A57 (Nat.le_of_ble_eq_true rfl) (hJ _ _ _ _ (by decide)) (xm_le ml_157 rfl) rfl ?_
    have zc1 : (1 : Int32).toInt = 1 := by decide
    refine mt_157_0 hJ hov1 hov2 (d := 91) (x1 := a2) (x2 := 1) K.1 (by first | omega | decide) (fun r58 hh59 K60 => ?_)
    have br58 := xc_rng r58
    have K61 := xk_tr K K60 rfl
    obtain ⟨u62, u63, bu62, bu63, A64⟩ := xq_0 K61.1
    have e65 : u56 = u63 := xk_eqi (q := 9) K60 rfl A57 A64 rfl rfl
    subst e65
    show xw J ov 100 195 (967, [(4, .int x4), (3, .ref 167), (2, .ref 115), (1, .ref 0), (0, .ref 1000000)], [.int r58], hh59) _
    refine xi_pop (pc' := 968) kc_195_967 rfl rfl ?_
    refine xi_aload_n (pc' := 969) (x := 115) kc_195_968 rfl rfl ?_
    refine xi_aload_n (pc' := 970) (x := 1000000) kc_195_969 rfl rfl ?_
    refine xi_iload (pc' := 972) (x := x4) kc_195_970 rfl rfl ?_
    refine xi_iconst (pc' := 973) (v := 1) kc_195_972 rfl rfl ?_
    refine xi_iadd (pc' := 974) (v := v1) kc_195_973 rfl ev1 ?_
    refine xi_ialoadO (pc' := 975) (v := a2) kc_195_974 rfl (by decide) hov0 (xi_in (by omega) (by omega)) ea2 ?_
    refine xi_aload_n (pc' := 976) (x := 1000000) kc_195_975 rfl rfl ?_
    refine xi_iload (pc' := 978) (x := x4) kc_195_976 rfl rfl ?_
    refine xi_iconst (pc' := 979) (v := 2) kc_195_978 rfl rfl ?_
    refine xi_iadd (pc' := 980) (v := v3) kc_195_979 rfl ev3 ?_
    refine xi_ialoadO (pc' := 981) (v := a4) kc_195_980 rfl (by decide) hov0 (xi_in (by omega) (by omega)) ea4 ?_
    refine xi_iff (pc' := 984) kc_195_981 rfl (xc_eq_f (X := a4.toInt) (Y := 0) rfl (by decide) (by omega)) ?_
    refine xi_iconst (pc' := 985) (v := 1) kc_195_984 rfl rfl ?_
    refine xi_goto (pc' := 989) kc_195_985 rfl ?_
    obtain ⟨u66, u67, u68, u69, u70, u71, u72, u73, u74, u75, u76, u77, u78, bu66, bu67, bu68, bu69, bu70, bu71, bu72, bu73, bu74, bu75, bu76, bu77, bu78, A79⟩ := xq_115 K61.1
    refine xi_virtual (mj := 56) (as := [.int a2, .int 1]) (st1 := []) (lv0 := [(0, .ref 115), (1, .int a2), (2, .int 1)]) kc_195_989 rfl rfl rfl rfl rfl A79 (Nat.le_of_ble_eq_true rfl) (hJ _ _ _ _ (by decide)) (xm_le ml_56 rfl) rfl ?_
    have zc1 : (1 : Int32).toInt = 1 := by decide
    refine mt_56_0 hJ hov1 hov2 (d := 91) (x1 := a2) (x2 := 1) K61.1 (by first | omega | decide) (fun r80 hh81 K82 => ?_)
    have br80 := xc_rng r80
    have K83 := xk_tr K61 K82 rfl
    obtain ⟨u84, u85, bu84, bu85, A86⟩ := xq_0 K83.1
    have e87 : u56 = u85 := xk_eqi (q := 9) K82 rfl A64 A86 rfl rfl
    subst e87
    obtain ⟨u88, u89, u90, u91, u92, u93, u94, u95, u96, u97, u98, u99, u100, bu88, bu89, bu90, bu91, bu92, bu93, bu94, bu95, bu96, bu97, bu98, bu99, bu100, A101⟩ := xq_115 K83.1
    have e102 : u67 = u89 := xk_eqi (q := 1) K82 rfl A79 A101 rfl rfl
    subst e102
    show xw J ov 100 195 (992, [(4, .int x4), (3, .ref 167), (2, .ref 115), (1, .ref 0), (0, .ref 1000000)], [.int r80], hh81) _
    refine xi_pop (pc' := 993) kc_195_992 rfl rfl ?_
    refine xi_goto (pc' := 1501) kc_195_993 rfl ?_
    obtain ⟨v103, ev103⟩ : ∃ q : Int32, x4 + 6 = q := ⟨_, rfl⟩
    have zv103 : v103.toInt = (x4.toInt + 6) := by rw [← ev103]; exact (xz_add (X := x4.toInt) (Y := 6) rfl (by decide) (by omega) (by omega)).trans (by omega)
    refine xi_iinc (pc' := 1504) (x := x4) (v := v103) (lv' := [(4, .int v103), (3, .ref 167), (2, .ref 115), (1, .ref 0), (0, .ref 1000000)]) kc_195_1501 rfl rfl ev103 rfl (xm_lt ml_195 rfl) ?_
    refine xi_goto (pc' := 23) kc_195_1504 rfl ?_
    exact kk v103 hh81 (by omega) K83
set_option maxHeartbeats 8000000 in
theorem lc_21 {J : xe_J} {ov : List (List Int32)} (hJ : ∀ d mj as h, mj ≠ xe_loff → J d mj as h = none) (hov1 : ov[1]? = some [10, 0, 0, 0, 0, 0]) (hov2 : ov[2]? = some [99, 30, 50, 50, 1, 99999]) {xs : List Int32} (hov0 : ov[0]? = some xs) {Q : Option Value → xe_H → Prop} {h : xe_H} {x4 : Int32} (hi0 : 0 ≤ x4.toInt) (hi1 : x4.toInt + 6 ≤ xs.length) (hi2 : x4.toInt ≤ 3066) (T : xt h) (kk : ∀ (i : Int32) (h' : xe_H), i.toInt = x4.toInt + 6 → xk [(6, 0), (123, 0), (9, 0), (124, 0), (7, 0), (10, 0), (5, 0), (8, 0)] h h' → xw J ov 100 195 (23, [(4, .int i), (3, .ref 167), (2, .ref 115), (1, .ref 0), (0, .ref 1000000)], [], h') Q) : xw J ov 100 195 (996, [(4, .int x4), (3, .ref 167), (2, .ref 115), (1, .ref 0), (0, .ref 1000000)], [], h) Q := by
  have K : xk [(6, 0), (123, 0), (9, 0), (124, 0), (7, 0), (10, 0), (5, 0), (8, 0)] h h := xk_re T
  refine xi_aload_n (pc' := 997) (x := 0) kc_195_996 rfl rfl ?_
  obtain ⟨u1, u2, bu1, bu2, A3⟩ := xq_0 K.1
  refine xi_virtual (mj := 158) (as := []) (st1 := []) (lv0 := [(0, .ref 0)]) kc_195_997 rfl rfl rfl rfl rfl A3 (Nat.le_of_ble_eq_true rfl) (hJ _ _ _ _ (by decide)) (xm_le ml_158 rfl) rfl ?_
  refine mt_158_0 hJ hov1 hov2 (d := 91)  K.1 (fun r4 hh5 br4 K6 => ?_)
  have K7 := xk_tr K K6 rfl
  obtain ⟨u8, u9, bu8, bu9, A10⟩ := xq_0 K7.1
  have e11 : u2 = u9 := xk_eqi (q := 9) K6 rfl A3 A10 rfl rfl
  subst e11
  show xw J ov 100 195 (1000, [(4, .int x4), (3, .ref 167), (2, .ref 115), (1, .ref 0), (0, .ref 1000000)], [.int r4], hh5) _
  refine xi_pop (pc' := 1001) kc_195_1000 rfl rfl ?_
  refine xi_aload_n (pc' := 1002) (x := 115) kc_195_1001 rfl rfl ?_
  obtain ⟨u12, u13, u14, u15, u16, u17, u18, u19, u20, u21, u22, u23, u24, bu12, bu13, bu14, bu15, bu16, bu17, bu18, bu19, bu20, bu21, bu22, bu23, bu24, A25⟩ := xq_115 K7.1
  refine xi_virtual (mj := 57) (as := []) (st1 := []) (lv0 := [(0, .ref 115)]) kc_195_1002 rfl rfl rfl rfl rfl A25 (Nat.le_of_ble_eq_true rfl) (hJ _ _ _ _ (by decide)) (xm_le ml_57 rfl) rfl ?_
  refine mt_57_0 hJ hov1 hov2 (d := 91)  K7.1 (fun r26 hh27 br26 K28 => ?_)
  have K29 := xk_tr K7 K28 rfl
  obtain ⟨u30, u31, bu30, bu31, A32⟩ := xq_0 K29.1
  have e33 : u2 = u31 := xk_eqi (q := 9) K28 rfl A10 A32 rfl rfl
  subst e33
  obtain ⟨u34, u35, u36, u37, u38, u39, u40, u41, u42, u43, u44, u45, u46, bu34, bu35, bu36, bu37, bu38, bu39, bu40, bu41, bu42, bu43, bu44, bu45, bu46, A47⟩ := xq_115 K29.1
  have e48 : u13 = u35 := xk_eqi (q := 1) K28 rfl A25 A47 rfl rfl
  subst e48
  show xw J ov 100 195 (1005, [(4, .int x4), (3, .ref 167), (2, .ref 115), (1, .ref 0), (0, .ref 1000000)], [.int r26], hh27) _
  refine xi_pop (pc' := 1006) kc_195_1005 rfl rfl ?_
  refine xi_goto (pc' := 1501) kc_195_1006 rfl ?_
  obtain ⟨v49, ev49⟩ : ∃ q : Int32, x4 + 6 = q := ⟨_, rfl⟩
  have zv49 : v49.toInt = (x4.toInt + 6) := by rw [← ev49]; exact (xz_add (X := x4.toInt) (Y := 6) rfl (by decide) (by omega) (by omega)).trans (by omega)
  refine xi_iinc (pc' := 1504) (x := x4) (v := v49) (lv' := [(4, .int v49), (3, .ref 167), (2, .ref 115), (1, .ref 0), (0, .ref 1000000)]) kc_195_1501 rfl rfl ev49 rfl (xm_lt ml_195 rfl) ?_
  refine xi_goto (pc' := 23) kc_195_1504 rfl ?_
  exact kk v49 hh27 (by omega) K29
set_option maxHeartbeats 8000000 in
theorem lc_22 {J : xe_J} {ov : List (List Int32)} (hJ : ∀ d mj as h, mj ≠ xe_loff → J d mj as h = none) (hov1 : ov[1]? = some [10, 0, 0, 0, 0, 0]) (hov2 : ov[2]? = some [99, 30, 50, 50, 1, 99999]) {xs : List Int32} (hov0 : ov[0]? = some xs) {Q : Option Value → xe_H → Prop} {h : xe_H} {x4 : Int32} (hi0 : 0 ≤ x4.toInt) (hi1 : x4.toInt + 6 ≤ xs.length) (hi2 : x4.toInt ≤ 3066) (T : xt h) (kk : ∀ (i : Int32) (h' : xe_H), i.toInt = x4.toInt + 6 → xk [(6, 0), (123, 0), (9, 0), (124, 0), (7, 0), (10, 0), (5, 0), (8, 0)] h h' → xw J ov 100 195 (23, [(4, .int i), (3, .ref 167), (2, .ref 115), (1, .ref 0), (0, .ref 1000000)], [], h') Q) : xw J ov 100 195 (1009, [(4, .int x4), (3, .ref 167), (2, .ref 115), (1, .ref 0), (0, .ref 1000000)], [], h) Q := by
  have K : xk [(6, 0), (123, 0), (9, 0), (124, 0), (7, 0), (10, 0), (5, 0), (8, 0)] h h := xk_re T
  refine xi_aload_n (pc' := 1010) (x := 0) kc_195_1009 rfl rfl ?_
  obtain ⟨u1, u2, bu1, bu2, A3⟩ := xq_0 K.1
  refine xi_virtual (mj := 160) (as := []) (st1 := []) (lv0 := [(0, .ref 0)]) kc_195_1010 rfl rfl rfl rfl rfl A3 (Nat.le_of_ble_eq_true rfl) (hJ _ _ _ _ (by decide)) (xm_le ml_160 rfl) rfl ?_
  refine mt_160_0 hJ hov1 hov2 (d := 86)  K.1 (fun r4 hh5 K6 => ?_)
  have br4 := xc_rng r4
  have K7 := xk_tr K K6 rfl
  obtain ⟨u8, u9, bu8, bu9, A10⟩ := xq_0 K7.1
  have e11 : u2 = u9 := xk_eqi (q := 9) K6 rfl A3 A10 rfl rfl
  subst e11
  show xw J ov 100 195 (1013, [(4, .int x4), (3, .ref 167), (2, .ref 115), (1, .ref 0), (0, .ref 1000000)], [.int r4], hh5) _
  refine xi_pop (pc' := 1014) kc_195_1013 rfl rfl ?_
  refine xi_aload_n (pc' := 1015) (x := 115) kc_195_1014 rfl rfl ?_
  obtain ⟨u12, u13, u14, u15, u16, u17, u18, u19, u20, u21, u22, u23, u24, bu12, bu13, bu14, bu15, bu16, bu17, bu18, bu19, bu20, bu21, bu22, bu23, bu24, A25⟩ := xq_115 K7.1
  refine xi_virtual (mj := 58) (as := []) (st1 := []) (lv0 := [(0, .ref 115)]) kc_195_1015 rfl rfl rfl rfl rfl A25 (Nat.le_of_ble_eq_true rfl) (hJ _ _ _ _ (by decide)) (xm_le ml_58 rfl) rfl ?_
  refine mt_58_0 hJ hov1 hov2 (d := 92)  K7.1 (fun r26 hh27 K28 => ?_)
  have br26 := xc_rng r26
  have K29 := xk_tr K7 K28 rfl
  obtain ⟨u30, u31, bu30, bu31, A32⟩ := xq_0 K29.1
  have e33 : u2 = u31 := xk_eqi (q := 9) K28 rfl A10 A32 rfl rfl
  subst e33
  obtain ⟨u34, u35, u36, u37, u38, u39, u40, u41, u42, u43, u44, u45, u46, bu34, bu35, bu36, bu37, bu38, bu39, bu40, bu41, bu42, bu43, bu44, bu45, bu46, A47⟩ := xq_115 K29.1
  have e48 : u13 = u35 := xk_eqi (q := 1) K28 rfl A25 A47 rfl rfl
  subst e48
  show xw J ov 100 195 (1018, [(4, .int x4), (3, .ref 167), (2, .ref 115), (1, .ref 0), (0, .ref 1000000)], [.int r26], hh27) _
  refine xi_pop (pc' := 1019) kc_195_1018 rfl rfl ?_
  refine xi_goto (pc' := 1501) kc_195_1019 rfl ?_
  obtain ⟨v49, ev49⟩ : ∃ q : Int32, x4 + 6 = q := ⟨_, rfl⟩
  have zv49 : v49.toInt = (x4.toInt + 6) := by rw [← ev49]; exact (xz_add (X := x4.toInt) (Y := 6) rfl (by decide) (by omega) (by omega)).trans (by omega)
  refine xi_iinc (pc' := 1504) (x := x4) (v := v49) (lv' := [(4, .int v49), (3, .ref 167), (2, .ref 115), (1, .ref 0), (0, .ref 1000000)]) kc_195_1501 rfl rfl ev49 rfl (xm_lt ml_195 rfl) ?_
  refine xi_goto (pc' := 23) kc_195_1504 rfl ?_
  exact kk v49 hh27 (by omega) K29
set_option maxHeartbeats 8000000 in
theorem lc_23 {J : xe_J} {ov : List (List Int32)} (hJ : ∀ d mj as h, mj ≠ xe_loff → J d mj as h = none) (hov1 : ov[1]? = some [10, 0, 0, 0, 0, 0]) (hov2 : ov[2]? = some [99, 30, 50, 50, 1, 99999]) {xs : List Int32} (hov0 : ov[0]? = some xs) {Q : Option Value → xe_H → Prop} {h : xe_H} {x4 : Int32} (hi0 : 0 ≤ x4.toInt) (hi1 : x4.toInt + 6 ≤ xs.length) (hi2 : x4.toInt ≤ 3066) (T : xt h) (kk : ∀ (i : Int32) (h' : xe_H), i.toInt = x4.toInt + 6 → xk [(6, 0), (123, 0), (9, 0), (124, 0), (7, 0), (10, 0), (5, 0), (8, 0)] h h' → xw J ov 100 195 (23, [(4, .int i), (3, .ref 167), (2, .ref 115), (1, .ref 0), (0, .ref 1000000)], [], h') Q) : xw J ov 100 195 (1022, [(4, .int x4), (3, .ref 167), (2, .ref 115), (1, .ref 0), (0, .ref 1000000)], [], h) Q := by
  have K : xk [(6, 0), (123, 0), (9, 0), (124, 0), (7, 0), (10, 0), (5, 0), (8, 0)] h h := xk_re T
  refine xi_aload_n (pc' := 1023) (x := 0) kc_195_1022 rfl rfl ?_
  refine xi_aload_n (pc' := 1024) (x := 1000000) kc_195_1023 rfl rfl ?_
  refine xi_iload (pc' := 1026) (x := x4) kc_195_1024 rfl rfl ?_
  refine xi_iconst (pc' := 1027) (v := 1) kc_195_1026 rfl rfl ?_
  obtain ⟨v1, ev1⟩ : ∃ q : Int32, x4 + 1 = q := ⟨_, rfl⟩
  have zv1 : v1.toInt = (x4.toInt + 1) := by rw [← ev1]; exact (xz_add (X := x4.toInt) (Y := 1) rfl (by decide) (by omega) (by omega)).trans (by omega)
  refine xi_iadd (pc' := 1028) (v := v1) kc_195_1027 rfl ev1 ?_
  obtain ⟨a2, ea2⟩ : ∃ q : Int32, xs.getD (Int32.toNatClampNeg v1) 0 = q := ⟨_, rfl⟩
  have ra2 := xc_rng a2
  refine xi_ialoadO (pc' := 1029) (v := a2) kc_195_1028 rfl (by decide) hov0 (xi_in (by omega) (by omega)) ea2 ?_
  refine xi_aload_n (pc' := 1030) (x := 1000000) kc_195_1029 rfl rfl ?_
  refine xi_iload (pc' := 1032) (x := x4) kc_195_1030 rfl rfl ?_
  refine xi_iconst (pc' := 1033) (v := 2) kc_195_1032 rfl rfl ?_
  obtain ⟨v3, ev3⟩ : ∃ q : Int32, x4 + 2 = q := ⟨_, rfl⟩
  have zv3 : v3.toInt = (x4.toInt + 2) := by rw [← ev3]; exact (xz_add (X := x4.toInt) (Y := 2) rfl (by decide) (by omega) (by omega)).trans (by omega)
  refine xi_iadd (pc' := 1034) (v := v3) kc_195_1033 rfl ev3 ?_
  obtain ⟨a4, ea4⟩ : ∃ q : Int32, xs.getD (Int32.toNatClampNeg v3) 0 = q := ⟨_, rfl⟩
  have ra4 := xc_rng a4
  refine xi_ialoadO (pc' := 1035) (v := a4) kc_195_1034 rfl (by decide) hov0 (xi_in (by omega) (by omega)) ea4 ?_
  refine xi_aload_n (pc' := 1036) (x := 1000000) kc_195_1035 rfl rfl ?_
  refine xi_iload (pc' := 1038) (x := x4) kc_195_1036 rfl rfl ?_
  refine xi_iconst (pc' := 1039) (v := 3) kc_195_1038 rfl rfl ?_
  obtain ⟨v5, ev5⟩ : ∃ q : Int32, x4 + 3 = q := ⟨_, rfl⟩
  have zv5 : v5.toInt = (x4.toInt + 3) := by rw [← ev5]; exact (xz_add (X := x4.toInt) (Y := 3) rfl (by decide) (by omega) (by omega)).trans (by omega)
  refine xi_iadd (pc' := 1040) (v := v5) kc_195_1039 rfl ev5 ?_
  obtain ⟨a6, ea6⟩ : ∃ q : Int32, xs.getD (Int32.toNatClampNeg v5) 0 = q := ⟨_, rfl⟩
  have ra6 := xc_rng a6
  refine xi_ialoadO (pc' := 1041) (v := a6) kc_195_1040 rfl (by decide) hov0 (xi_in (by omega) (by omega)) ea6 ?_
  refine xi_aload_n (pc' := 1042) (x := 1000000) kc_195_1041 rfl rfl ?_
  refine xi_iload (pc' := 1044) (x := x4) kc_195_1042 rfl rfl ?_
  refine xi_iconst (pc' := 1045) (v := 4) kc_195_1044 rfl rfl ?_
  obtain ⟨v7, ev7⟩ : ∃ q : Int32, x4 + 4 = q := ⟨_, rfl⟩
  have zv7 : v7.toInt = (x4.toInt + 4) := by rw [← ev7]; exact (xz_add (X := x4.toInt) (Y := 4) rfl (by decide) (by omega) (by omega)).trans (by omega)
  refine xi_iadd (pc' := 1046) (v := v7) kc_195_1045 rfl ev7 ?_
  obtain ⟨a8, ea8⟩ : ∃ q : Int32, xs.getD (Int32.toNatClampNeg v7) 0 = q := ⟨_, rfl⟩
  have ra8 := xc_rng a8
  refine xi_ialoadO (pc' := 1047) (v := a8) kc_195_1046 rfl (by decide) hov0 (xi_in (by omega) (by omega)) ea8 ?_
  refine xi_aload_n (pc' := 1048) (x := 1000000) kc_195_1047 rfl rfl ?_
  refine xi_iload (pc' := 1050) (x := x4) kc_195_1048 rfl rfl ?_
  refine xi_iconst (pc' := 1051) (v := 5) kc_195_1050 rfl rfl ?_
  obtain ⟨v9, ev9⟩ : ∃ q : Int32, x4 + 5 = q := ⟨_, rfl⟩
  have zv9 : v9.toInt = (x4.toInt + 5) := by rw [← ev9]; exact (xz_add (X := x4.toInt) (Y := 5) rfl (by decide) (by omega) (by omega)).trans (by omega)
  refine xi_iadd (pc' := 1052) (v := v9) kc_195_1051 rfl ev9 ?_
  obtain ⟨a10, ea10⟩ : ∃ q : Int32, xs.getD (Int32.toNatClampNeg v9) 0 = q := ⟨_, rfl⟩
  have ra10 := xc_rng a10
  refine xi_ialoadO (pc' := 1053) (v := a10) kc_195_1052 rfl (by decide) hov0 (xi_in (by omega) (by omega)) ea10 ?_
  obtain ⟨u11, u12, bu11, bu12, A13⟩ := xq_0 K.1
  refine xi_virtual (mj := 163) (as := [.int a2, .int a4, .int a6, .int a8, .int a10]) (st1 := []) (lv0 := [(0, .ref 0), (1, .int a2), (2, .int a4), (3, .int a6), (4, .int a8), (5, .int a10)]) kc_195_1053 rfl rfl rfl rfl rfl A13 (Nat.le_of_ble_eq_true rfl) (hJ _ _ _ _ (by decide)) (xm_le ml_163 rfl) rfl ?_
  refine mt_163_0 hJ hov1 hov2 (d := 97) (x1 := a2) (x2 := a4) (x3 := a6) (x4 := a8) (x5 := a10) K.1 (fun r14 hh15 br14 K16 => ?_)
  have K17 := xk_tr K K16 rfl
  obtain ⟨u18, u19, bu18, bu19, A20⟩ := xq_0 K17.1
  have e21 : u12 = u19 := xk_eqi (q := 9) K16 rfl A13 A20 rfl rfl
  subst e21
  show xw J ov 100 195 (1056, [(4, .int x4), (3, .ref 167), (2, .ref 115), (1, .ref 0), (0, .ref 1000000)], [.int r14], hh15) _
  refine xi_pop (pc' := 1057) kc_195_1056 rfl rfl ?_
  refine xi_aload_n (pc' := 1058) (x := 115) kc_195_1057 rfl rfl ?_
  refine xi_aload_n (pc' := 1059) (x := 1000000) kc_195_1058 rfl rfl ?_
  refine xi_iload (pc' := 1061) (x := x4) kc_195_1059 rfl rfl ?_
  refine xi_iconst (pc' := 1062) (v := 1) kc_195_1061 rfl rfl ?_
  refine xi_iadd (pc' := 1063) (v := v1) kc_195_1062 rfl ev1 ?_
  refine xi_ialoadO (pc' := 1064) (v := a2) kc_195_1063 rfl (by decide) hov0 (xi_in (by omega) (by omega)) ea2 ?_
  refine xi_aload_n (pc' := 1065) (x := 1000000) kc_195_1064 rfl rfl ?_
  refine xi_iload (pc' := 1067) (x := x4) kc_195_1065 rfl rfl ?_
  refine xi_iconst (pc' := 1068) (v := 2) kc_195_1067 rfl rfl ?_
  refine xi_iadd (pc' := 1069) (v := v3) kc_195_1068 rfl ev3 ?_
  refine xi_ialoadO (pc' := 1070) (v := a4) kc_195_1069 rfl (by decide) hov0 (xi_in (by omega) (by omega)) ea4 ?_
  refine xi_aload_n (pc' := 1071) (x := 1000000) kc_195_1070 rfl rfl ?_
  refine xi_iload (pc' := 1073) (x := x4) kc_195_1071 rfl rfl ?_
  refine xi_iconst (pc' := 1074) (v := 3) kc_195_1073 rfl rfl ?_
  refine xi_iadd (pc' := 1075) (v := v5) kc_195_1074 rfl ev5 ?_
  refine xi_ialoadO (pc' := 1076) (v := a6) kc_195_1075 rfl (by decide) hov0 (xi_in (by omega) (by omega)) ea6 ?_
  refine xi_aload_n (pc' := 1077) (x := 1000000) kc_195_1076 rfl rfl ?_
  refine xi_iload (pc' := 1079) (x := x4) kc_195_1077 rfl rfl ?_
  refine xi_iconst (pc' := 1080) (v := 4) kc_195_1079 rfl rfl ?_
  refine xi_iadd (pc' := 1081) (v := v7) kc_195_1080 rfl ev7 ?_
  refine xi_ialoadO (pc' := 1082) (v := a8) kc_195_1081 rfl (by decide) hov0 (xi_in (by omega) (by omega)) ea8 ?_
  refine xi_aload_n (pc' := 1083) (x := 1000000) kc_195_1082 rfl rfl ?_
  refine xi_iload (pc' := 1085) (x := x4) kc_195_1083 rfl rfl ?_
  refine xi_iconst (pc' := 1086) (v := 5) kc_195_1085 rfl rfl ?_
  refine xi_iadd (pc' := 1087) (v := v9) kc_195_1086 rfl ev9 ?_
  refine xi_ialoadO (pc' := 1088) (v := a10) kc_195_1087 rfl (by decide) hov0 (xi_in (by omega) (by omega)) ea10 ?_
  obtain ⟨u22, u23, u24, u25, u26, u27, u28, u29, u30, u31, u32, u33, u34, bu22, bu23, bu24, bu25, bu26, bu27, bu28, bu29, bu30, bu31, bu32, bu33, bu34, A35⟩ := xq_115 K17.1
  refine xi_virtual (mj := 61) (as := [.int a2, .int a4, .int a6, .int a8, .int a10]) (st1 := []) (lv0 := [(0, .ref 115), (1, .int a2), (2, .int a4), (3, .int a6), (4, .int a8), (5, .int a10)]) kc_195_1088 rfl rfl rfl rfl rfl A35 (Nat.le_of_ble_eq_true rfl) (hJ _ _ _ _ (by decide)) (xm_le ml_61 rfl) rfl ?_
  refine mt_61_0 hJ hov1 hov2 (d := 97) (x1 := a2) (x2 := a4) (x3 := a6) (x4 := a8) (x5 := a10) K17.1 (fun r36 hh37 br36 K38 => ?_)
  have K39 := xk_tr K17 K38 rfl
  obtain ⟨u40, u41, bu40, bu41, A42⟩ := xq_0 K39.1
  have e43 : u12 = u41 := xk_eqi (q := 9) K38 rfl A20 A42 rfl rfl
  subst e43
  obtain ⟨u44, u45, u46, u47, u48, u49, u50, u51, u52, u53, u54, u55, u56, bu44, bu45, bu46, bu47, bu48, bu49, bu50, bu51, bu52, bu53, bu54, bu55, bu56, A57⟩ := xq_115 K39.1
  have e58 : u23 = u45 := xk_eqi (q := 1) K38 rfl A35 A57 rfl rfl
  subst e58
  show xw J ov 100 195 (1091, [(4, .int x4), (3, .ref 167), (2, .ref 115), (1, .ref 0), (0, .ref 1000000)], [.int r36], hh37) _
  refine xi_pop (pc' := 1092) kc_195_1091 rfl rfl ?_
  refine xi_goto (pc' := 1501) kc_195_1092 rfl ?_
  obtain ⟨v59, ev59⟩ : ∃ q : Int32, x4 + 6 = q := ⟨_, rfl⟩
  have zv59 : v59.toInt = (x4.toInt + 6) := by rw [← ev59]; exact (xz_add (X := x4.toInt) (Y := 6) rfl (by decide) (by omega) (by omega)).trans (by omega)
  refine xi_iinc (pc' := 1504) (x := x4) (v := v59) (lv' := [(4, .int v59), (3, .ref 167), (2, .ref 115), (1, .ref 0), (0, .ref 1000000)]) kc_195_1501 rfl rfl ev59 rfl (xm_lt ml_195 rfl) ?_
  refine xi_goto (pc' := 23) kc_195_1504 rfl ?_
  exact kk v59 hh37 (by omega) K39
set_option maxHeartbeats 8000000 in
theorem lc_24 {J : xe_J} {ov : List (List Int32)} (hJ : ∀ d mj as h, mj ≠ xe_loff → J d mj as h = none) (hov1 : ov[1]? = some [10, 0, 0, 0, 0, 0]) (hov2 : ov[2]? = some [99, 30, 50, 50, 1, 99999]) {xs : List Int32} (hov0 : ov[0]? = some xs) {Q : Option Value → xe_H → Prop} {h : xe_H} {x4 : Int32} (hi0 : 0 ≤ x4.toInt) (hi1 : x4.toInt + 6 ≤ xs.length) (hi2 : x4.toInt ≤ 3066) (T : xt h) (kk : ∀ (i : Int32) (h' : xe_H), i.toInt = x4.toInt + 6 → xk [(6, 0), (123, 0), (9, 0), (124, 0), (7, 0), (10, 0), (5, 0), (8, 0)] h h' → xw J ov 100 195 (23, [(4, .int i), (3, .ref 167), (2, .ref 115), (1, .ref 0), (0, .ref 1000000)], [], h') Q) : xw J ov 100 195 (1095, [(4, .int x4), (3, .ref 167), (2, .ref 115), (1, .ref 0), (0, .ref 1000000)], [], h) Q := by
  have K : xk [(6, 0), (123, 0), (9, 0), (124, 0), (7, 0), (10, 0), (5, 0), (8, 0)] h h := xk_re T
  refine xi_aload_n (pc' := 1096) (x := 0) kc_195_1095 rfl rfl ?_
  refine xi_aload_n (pc' := 1097) (x := 1000000) kc_195_1096 rfl rfl ?_
  refine xi_iload (pc' := 1099) (x := x4) kc_195_1097 rfl rfl ?_
  refine xi_iconst (pc' := 1100) (v := 1) kc_195_1099 rfl rfl ?_
  obtain ⟨v1, ev1⟩ : ∃ q : Int32, x4 + 1 = q := ⟨_, rfl⟩
  have zv1 : v1.toInt = (x4.toInt + 1) := by rw [← ev1]; exact (xz_add (X := x4.toInt) (Y := 1) rfl (by decide) (by omega) (by omega)).trans (by omega)
  refine xi_iadd (pc' := 1101) (v := v1) kc_195_1100 rfl ev1 ?_
  obtain ⟨a2, ea2⟩ : ∃ q : Int32, xs.getD (Int32.toNatClampNeg v1) 0 = q := ⟨_, rfl⟩
  have ra2 := xc_rng a2
  refine xi_ialoadO (pc' := 1102) (v := a2) kc_195_1101 rfl (by decide) hov0 (xi_in (by omega) (by omega)) ea2 ?_
  refine xi_aload_n (pc' := 1103) (x := 1000000) kc_195_1102 rfl rfl ?_
  refine xi_iload (pc' := 1105) (x := x4) kc_195_1103 rfl rfl ?_
  refine xi_iconst (pc' := 1106) (v := 2) kc_195_1105 rfl rfl ?_
  obtain ⟨v3, ev3⟩ : ∃ q : Int32, x4 + 2 = q := ⟨_, rfl⟩
  have zv3 : v3.toInt = (x4.toInt + 2) := by rw [← ev3]; exact (xz_add (X := x4.toInt) (Y := 2) rfl (by decide) (by omega) (by omega)).trans (by omega)
  refine xi_iadd (pc' := 1107) (v := v3) kc_195_1106 rfl ev3 ?_
  obtain ⟨a4, ea4⟩ : ∃ q : Int32, xs.getD (Int32.toNatClampNeg v3) 0 = q := ⟨_, rfl⟩
  have ra4 := xc_rng a4
  refine xi_ialoadO (pc' := 1108) (v := a4) kc_195_1107 rfl (by decide) hov0 (xi_in (by omega) (by omega)) ea4 ?_
  obtain ⟨u5, u6, bu5, bu6, A7⟩ := xq_0 K.1
  refine xi_virtual (mj := 165) (as := [.int a2, .int a4]) (st1 := []) (lv0 := [(0, .ref 0), (1, .int a2), (2, .int a4)]) kc_195_1108 rfl rfl rfl rfl rfl A7 (Nat.le_of_ble_eq_true rfl) (hJ _ _ _ _ (by decide)) (xm_le ml_165 rfl) rfl ?_
  refine mt_165_0 hJ hov1 hov2 (d := 97) (x1 := a2) (x2 := a4) K.1 (fun r8 hh9 K10 => ?_)
  have br8 := xc_rng r8
  have K11 := xk_tr K K10 rfl
  obtain ⟨u12, u13, bu12, bu13, A14⟩ := xq_0 K11.1
  have e15 : u6 = u13 := xk_eqi (q := 9) K10 rfl A7 A14 rfl rfl
  subst e15
  show xw J ov 100 195 (1111, [(4, .int x4), (3, .ref 167), (2, .ref 115), (1, .ref 0), (0, .ref 1000000)], [.int r8], hh9) _
  refine xi_pop (pc' := 1112) kc_195_1111 rfl rfl ?_
  refine xi_aload_n (pc' := 1113) (x := 115) kc_195_1112 rfl rfl ?_
  refine xi_aload_n (pc' := 1114) (x := 1000000) kc_195_1113 rfl rfl ?_
  refine xi_iload (pc' := 1116) (x := x4) kc_195_1114 rfl rfl ?_
  refine xi_iconst (pc' := 1117) (v := 1) kc_195_1116 rfl rfl ?_
  refine xi_iadd (pc' := 1118) (v := v1) kc_195_1117 rfl ev1 ?_
  refine xi_ialoadO (pc' := 1119) (v := a2) kc_195_1118 rfl (by decide) hov0 (xi_in (by omega) (by omega)) ea2 ?_
  refine xi_aload_n (pc' := 1120) (x := 1000000) kc_195_1119 rfl rfl ?_
  refine xi_iload (pc' := 1122) (x := x4) kc_195_1120 rfl rfl ?_
  refine xi_iconst (pc' := 1123) (v := 2) kc_195_1122 rfl rfl ?_
  refine xi_iadd (pc' := 1124) (v := v3) kc_195_1123 rfl ev3 ?_
  refine xi_ialoadO (pc' := 1125) (v := a4) kc_195_1124 rfl (by decide) hov0 (xi_in (by omega) (by omega)) ea4 ?_
  obtain ⟨u16, u17, u18, u19, u20, u21, u22, u23, u24, u25, u26, u27, u28, bu16, bu17, bu18, bu19, bu20, bu21, bu22, bu23, bu24, bu25, bu26, bu27, bu28, A29⟩ := xq_115 K11.1
  refine xi_virtual (mj := 62) (as := [.int a2, .int a4]) (st1 := []) (lv0 := [(0, .ref 115), (1, .int a2), (2, .int a4)]) kc_195_1125 rfl rfl rfl rfl rfl A29 (Nat.le_of_ble_eq_true rfl) (hJ _ _ _ _ (by decide)) (xm_le ml_62 rfl) rfl ?_
  refine mt_62_0 hJ hov1 hov2 (d := 97) (x1 := a2) (x2 := a4) K11.1 (fun r30 hh31 K32 => ?_)
  have br30 := xc_rng r30
  have K33 := xk_tr K11 K32 rfl
  obtain ⟨u34, u35, bu34, bu35, A36⟩ := xq_0 K33.1
  have e37 : u6 = u35 := xk_eqi (q := 9) K32 rfl A14 A36 rfl rfl
  subst e37
  obtain ⟨u38, u39, u40, u41, u42, u43, u44, u45, u46, u47, u48, u49, u50, bu38, bu39, bu40, bu41, bu42, bu43, bu44, bu45, bu46, bu47, bu48, bu49, bu50, A51⟩ := xq_115 K33.1
  have e52 : u17 = u39 := xk_eqi (q := 1) K32 rfl A29 A51 rfl rfl
  subst e52
  show xw J ov 100 195 (1128, [(4, .int x4), (3, .ref 167), (2, .ref 115), (1, .ref 0), (0, .ref 1000000)], [.int r30], hh31) _
  refine xi_pop (pc' := 1129) kc_195_1128 rfl rfl ?_
  refine xi_goto (pc' := 1501) kc_195_1129 rfl ?_
  obtain ⟨v53, ev53⟩ : ∃ q : Int32, x4 + 6 = q := ⟨_, rfl⟩
  have zv53 : v53.toInt = (x4.toInt + 6) := by rw [← ev53]; exact (xz_add (X := x4.toInt) (Y := 6) rfl (by decide) (by omega) (by omega)).trans (by omega)
  refine xi_iinc (pc' := 1504) (x := x4) (v := v53) (lv' := [(4, .int v53), (3, .ref 167), (2, .ref 115), (1, .ref 0), (0, .ref 1000000)]) kc_195_1501 rfl rfl ev53 rfl (xm_lt ml_195 rfl) ?_
  refine xi_goto (pc' := 23) kc_195_1504 rfl ?_
  exact kk v53 hh31 (by omega) K33
set_option maxHeartbeats 8000000 in
theorem lc_25 {J : xe_J} {ov : List (List Int32)} (hJ : ∀ d mj as h, mj ≠ xe_loff → J d mj as h = none) (hov1 : ov[1]? = some [10, 0, 0, 0, 0, 0]) (hov2 : ov[2]? = some [99, 30, 50, 50, 1, 99999]) {xs : List Int32} (hov0 : ov[0]? = some xs) {Q : Option Value → xe_H → Prop} {h : xe_H} {x4 : Int32} (hi0 : 0 ≤ x4.toInt) (hi1 : x4.toInt + 6 ≤ xs.length) (hi2 : x4.toInt ≤ 3066) (T : xt h) (kk : ∀ (i : Int32) (h' : xe_H), i.toInt = x4.toInt + 6 → xk [(6, 0), (123, 0), (9, 0), (124, 0), (7, 0), (10, 0), (5, 0), (8, 0)] h h' → xw J ov 100 195 (23, [(4, .int i), (3, .ref 167), (2, .ref 115), (1, .ref 0), (0, .ref 1000000)], [], h') Q) : xw J ov 100 195 (1132, [(4, .int x4), (3, .ref 167), (2, .ref 115), (1, .ref 0), (0, .ref 1000000)], [], h) Q := by
  have K : xk [(6, 0), (123, 0), (9, 0), (124, 0), (7, 0), (10, 0), (5, 0), (8, 0)] h h := xk_re T
  refine xi_aload_n (pc' := 1133) (x := 0) kc_195_1132 rfl rfl ?_
  refine xi_aload_n (pc' := 1134) (x := 1000000) kc_195_1133 rfl rfl ?_
  refine xi_iload (pc' := 1136) (x := x4) kc_195_1134 rfl rfl ?_
  refine xi_iconst (pc' := 1137) (v := 1) kc_195_1136 rfl rfl ?_
  obtain ⟨v1, ev1⟩ : ∃ q : Int32, x4 + 1 = q := ⟨_, rfl⟩
  have zv1 : v1.toInt = (x4.toInt + 1) := by rw [← ev1]; exact (xz_add (X := x4.toInt) (Y := 1) rfl (by decide) (by omega) (by omega)).trans (by omega)
  refine xi_iadd (pc' := 1138) (v := v1) kc_195_1137 rfl ev1 ?_
  obtain ⟨a2, ea2⟩ : ∃ q : Int32, xs.getD (Int32.toNatClampNeg v1) 0 = q := ⟨_, rfl⟩
  have ra2 := xc_rng a2
  refine xi_ialoadO (pc' := 1139) (v := a2) kc_195_1138 rfl (by decide) hov0 (xi_in (by omega) (by omega)) ea2 ?_
  refine xi_aload_n (pc' := 1140) (x := 1000000) kc_195_1139 rfl rfl ?_
  refine xi_iload (pc' := 1142) (x := x4) kc_195_1140 rfl rfl ?_
  refine xi_iconst (pc' := 1143) (v := 2) kc_195_1142 rfl rfl ?_
  obtain ⟨v3, ev3⟩ : ∃ q : Int32, x4 + 2 = q := ⟨_, rfl⟩
  have zv3 : v3.toInt = (x4.toInt + 2) := by rw [← ev3]; exact (xz_add (X := x4.toInt) (Y := 2) rfl (by decide) (by omega) (by omega)).trans (by omega)
  refine xi_iadd (pc' := 1144) (v := v3) kc_195_1143 rfl ev3 ?_
  obtain ⟨a4, ea4⟩ : ∃ q : Int32, xs.getD (Int32.toNatClampNeg v3) 0 = q := ⟨_, rfl⟩
  have ra4 := xc_rng a4
  refine xi_ialoadO (pc' := 1145) (v := a4) kc_195_1144 rfl (by decide) hov0 (xi_in (by omega) (by omega)) ea4 ?_
  refine xi_aload_n (pc' := 1146) (x := 1000000) kc_195_1145 rfl rfl ?_
  refine xi_iload (pc' := 1148) (x := x4) kc_195_1146 rfl rfl ?_
  refine xi_iconst (pc' := 1149) (v := 3) kc_195_1148 rfl rfl ?_
  obtain ⟨v5, ev5⟩ : ∃ q : Int32, x4 + 3 = q := ⟨_, rfl⟩
  have zv5 : v5.toInt = (x4.toInt + 3) := by rw [← ev5]; exact (xz_add (X := x4.toInt) (Y := 3) rfl (by decide) (by omega) (by omega)).trans (by omega)
  refine xi_iadd (pc' := 1150) (v := v5) kc_195_1149 rfl ev5 ?_
  obtain ⟨a6, ea6⟩ : ∃ q : Int32, xs.getD (Int32.toNatClampNeg v5) 0 = q := ⟨_, rfl⟩
  have ra6 := xc_rng a6
  refine xi_ialoadO (pc' := 1151) (v := a6) kc_195_1150 rfl (by decide) hov0 (xi_in (by omega) (by omega)) ea6 ?_
  refine xi_aload_n (pc' := 1152) (x := 1000000) kc_195_1151 rfl rfl ?_
  refine xi_iload (pc' := 1154) (x := x4) kc_195_1152 rfl rfl ?_
  refine xi_iconst (pc' := 1155) (v := 4) kc_195_1154 rfl rfl ?_
  obtain ⟨v7, ev7⟩ : ∃ q : Int32, x4 + 4 = q := ⟨_, rfl⟩
  have zv7 : v7.toInt = (x4.toInt + 4) := by rw [← ev7]; exact (xz_add (X := x4.toInt) (Y := 4) rfl (by decide) (by omega) (by omega)).trans (by omega)
  refine xi_iadd (pc' := 1156) (v := v7) kc_195_1155 rfl ev7 ?_
  obtain ⟨a8, ea8⟩ : ∃ q : Int32, xs.getD (Int32.toNatClampNeg v7) 0 = q := ⟨_, rfl⟩
  have ra8 := xc_rng a8
  refine xi_ialoadO (pc' := 1157) (v := a8) kc_195_1156 rfl (by decide) hov0 (xi_in (by omega) (by omega)) ea8 ?_
  obtain ⟨u9, u10, bu9, bu10, A11⟩ := xq_0 K.1
  refine xi_virtual (mj := 167) (as := [.int a2, .int a4, .int a6, .int a8]) (st1 := []) (lv0 := [(0, .ref 0), (1, .int a2), (2, .int a4), (3, .int a6), (4, .int a8)]) kc_195_1157 rfl rfl rfl rfl rfl A11 (Nat.le_of_ble_eq_true rfl) (hJ _ _ _ _ (by decide)) (xm_le ml_167 rfl) rfl ?_
  refine mt_167_0 hJ hov1 hov2 (d := 98) (x1 := a2) (x2 := a4) (x3 := a6) (x4 := a8) K.1 (fun r12 hh13 br12 K14 => ?_)
  have K15 := xk_tr K K14 rfl
  obtain ⟨u16, u17, bu16, bu17, A18⟩ := xq_0 K15.1
  have e19 : u10 = u17 := xk_eqi (q := 9) K14 rfl A11 A18 rfl rfl
  subst e19
  show xw J ov 100 195 (1160, [(4, .int x4), (3, .ref 167), (2, .ref 115), (1, .ref 0), (0, .ref 1000000)], [.int r12], hh13) _
  refine xi_pop (pc' := 1161) kc_195_1160 rfl rfl ?_
  refine xi_aload_n (pc' := 1162) (x := 115) kc_195_1161 rfl rfl ?_
  refine xi_aload_n (pc' := 1163) (x := 1000000) kc_195_1162 rfl rfl ?_
  refine xi_iload (pc' := 1165) (x := x4) kc_195_1163 rfl rfl ?_
  refine xi_iconst (pc' := 1166) (v := 1) kc_195_1165 rfl rfl ?_
  refine xi_iadd (pc' := 1167) (v := v1) kc_195_1166 rfl ev1 ?_
  refine xi_ialoadO (pc' := 1168) (v := a2) kc_195_1167 rfl (by decide) hov0 (xi_in (by omega) (by omega)) ea2 ?_
  refine xi_aload_n (pc' := 1169) (x := 1000000) kc_195_1168 rfl rfl ?_
  refine xi_iload (pc' := 1171) (x := x4) kc_195_1169 rfl rfl ?_
  refine xi_iconst (pc' := 1172) (v := 2) kc_195_1171 rfl rfl ?_
  refine xi_iadd (pc' := 1173) (v := v3) kc_195_1172 rfl ev3 ?_
  refine xi_ialoadO (pc' := 1174) (v := a4) kc_195_1173 rfl (by decide) hov0 (xi_in (by omega) (by omega)) ea4 ?_
  refine xi_aload_n (pc' := 1175) (x := 1000000) kc_195_1174 rfl rfl ?_
  refine xi_iload (pc' := 1177) (x := x4) kc_195_1175 rfl rfl ?_
  refine xi_iconst (pc' := 1178) (v := 3) kc_195_1177 rfl rfl ?_
  refine xi_iadd (pc' := 1179) (v := v5) kc_195_1178 rfl ev5 ?_
  refine xi_ialoadO (pc' := 1180) (v := a6) kc_195_1179 rfl (by decide) hov0 (xi_in (by omega) (by omega)) ea6 ?_
  refine xi_aload_n (pc' := 1181) (x := 1000000) kc_195_1180 rfl rfl ?_
  refine xi_iload (pc' := 1183) (x := x4) kc_195_1181 rfl rfl ?_
  refine xi_iconst (pc' := 1184) (v := 4) kc_195_1183 rfl rfl ?_
  refine xi_iadd (pc' := 1185) (v := v7) kc_195_1184 rfl ev7 ?_
  refine xi_ialoadO (pc' := 1186) (v := a8) kc_195_1185 rfl (by decide) hov0 (xi_in (by omega) (by omega)) ea8 ?_
  obtain ⟨u20, u21, u22, u23, u24, u25, u26, u27, u28, u29, u30, u31, u32, bu20, bu21, bu22, bu23, bu24, bu25, bu26, bu27, bu28, bu29, bu30, bu31, bu32, A33⟩ := xq_115 K15.1
  refine xi_virtual (mj := 64) (as := [.int a2, .int a4, .int a6, .int a8]) (st1 := []) (lv0 := [(0, .ref 115), (1, .int a2), (2, .int a4), (3, .int a6), (4, .int a8)]) kc_195_1186 rfl rfl rfl rfl rfl A33 (Nat.le_of_ble_eq_true rfl) (hJ _ _ _ _ (by decide)) (xm_le ml_64 rfl) rfl ?_
  refine mt_64_0 hJ hov1 hov2 (d := 98) (x1 := a2) (x2 := a4) (x3 := a6) (x4 := a8) K15.1 (fun r34 hh35 br34 K36 => ?_)
  have K37 := xk_tr K15 K36 rfl
  obtain ⟨u38, u39, bu38, bu39, A40⟩ := xq_0 K37.1
  have e41 : u10 = u39 := xk_eqi (q := 9) K36 rfl A18 A40 rfl rfl
  subst e41
  obtain ⟨u42, u43, u44, u45, u46, u47, u48, u49, u50, u51, u52, u53, u54, bu42, bu43, bu44, bu45, bu46, bu47, bu48, bu49, bu50, bu51, bu52, bu53, bu54, A55⟩ := xq_115 K37.1
  have e56 : u21 = u43 := xk_eqi (q := 1) K36 rfl A33 A55 rfl rfl
  subst e56
  show xw J ov 100 195 (1189, [(4, .int x4), (3, .ref 167), (2, .ref 115), (1, .ref 0), (0, .ref 1000000)], [.int r34], hh35) _
  refine xi_pop (pc' := 1190) kc_195_1189 rfl rfl ?_
  refine xi_goto (pc' := 1501) kc_195_1190 rfl ?_
  obtain ⟨v57, ev57⟩ : ∃ q : Int32, x4 + 6 = q := ⟨_, rfl⟩
  have zv57 : v57.toInt = (x4.toInt + 6) := by rw [← ev57]; exact (xz_add (X := x4.toInt) (Y := 6) rfl (by decide) (by omega) (by omega)).trans (by omega)
  refine xi_iinc (pc' := 1504) (x := x4) (v := v57) (lv' := [(4, .int v57), (3, .ref 167), (2, .ref 115), (1, .ref 0), (0, .ref 1000000)]) kc_195_1501 rfl rfl ev57 rfl (xm_lt ml_195 rfl) ?_
  refine xi_goto (pc' := 23) kc_195_1504 rfl ?_
  exact kk v57 hh35 (by omega) K37
set_option maxHeartbeats 8000000 in
theorem lc_26 {J : xe_J} {ov : List (List Int32)} (hJ : ∀ d mj as h, mj ≠ xe_loff → J d mj as h = none) (hov1 : ov[1]? = some [10, 0, 0, 0, 0, 0]) (hov2 : ov[2]? = some [99, 30, 50, 50, 1, 99999]) {xs : List Int32} (hov0 : ov[0]? = some xs) {Q : Option Value → xe_H → Prop} {h : xe_H} {x4 : Int32} (hi0 : 0 ≤ x4.toInt) (hi1 : x4.toInt + 6 ≤ xs.length) (hi2 : x4.toInt ≤ 3066) (T : xt h) (kk : ∀ (i : Int32) (h' : xe_H), i.toInt = x4.toInt + 6 → xk [(6, 0), (123, 0), (9, 0), (124, 0), (7, 0), (10, 0), (5, 0), (8, 0)] h h' → xw J ov 100 195 (23, [(4, .int i), (3, .ref 167), (2, .ref 115), (1, .ref 0), (0, .ref 1000000)], [], h') Q) : xw J ov 100 195 (1193, [(4, .int x4), (3, .ref 167), (2, .ref 115), (1, .ref 0), (0, .ref 1000000)], [], h) Q := by
  have K : xk [(6, 0), (123, 0), (9, 0), (124, 0), (7, 0), (10, 0), (5, 0), (8, 0)] h h := xk_re T
  refine xi_aload_n (pc' := 1194) (x := 0) kc_195_1193 rfl rfl ?_
  obtain ⟨u1, u2, bu1, bu2, A3⟩ := xq_0 K.1
  refine xi_virtual (mj := 169) (as := []) (st1 := []) (lv0 := [(0, .ref 0)]) kc_195_1194 rfl rfl rfl rfl rfl A3 (Nat.le_of_ble_eq_true rfl) (hJ _ _ _ _ (by decide)) (xm_le ml_169 rfl) rfl ?_
  refine mt_169_0 hJ hov1 hov2 (d := 95)  K.1 (fun r4 hh5 K6 => ?_)
  have br4 := xc_rng r4
  have K7 := xk_tr K K6 rfl
  obtain ⟨u8, u9, bu8, bu9, A10⟩ := xq_0 K7.1
  have e11 : u2 = u9 := xk_eqi (q := 9) K6 rfl A3 A10 rfl rfl
  subst e11
  show xw J ov 100 195 (1197, [(4, .int x4), (3, .ref 167), (2, .ref 115), (1, .ref 0), (0, .ref 1000000)], [.int r4], hh5) _
  refine xi_pop (pc' := 1198) kc_195_1197 rfl rfl ?_
  refine xi_aload_n (pc' := 1199) (x := 115) kc_195_1198 rfl rfl ?_
  obtain ⟨u12, u13, u14, u15, u16, u17, u18, u19, u20, u21, u22, u23, u24, bu12, bu13, bu14, bu15, bu16, bu17, bu18, bu19, bu20, bu21, bu22, bu23, bu24, A25⟩ := xq_115 K7.1
  refine xi_virtual (mj := 65) (as := []) (st1 := []) (lv0 := [(0, .ref 115)]) kc_195_1199 rfl rfl rfl rfl rfl A25 (Nat.le_of_ble_eq_true rfl) (hJ _ _ _ _ (by decide)) (xm_le ml_65 rfl) rfl ?_
  refine mt_65_0 hJ hov1 hov2 (d := 97)  K7.1 (fun r26 hh27 K28 => ?_)
  have br26 := xc_rng r26
  have K29 := xk_tr K7 K28 rfl
  obtain ⟨u30, u31, bu30, bu31, A32⟩ := xq_0 K29.1
  have e33 : u2 = u31 := xk_eqi (q := 9) K28 rfl A10 A32 rfl rfl
  subst e33
  obtain ⟨u34, u35, u36, u37, u38, u39, u40, u41, u42, u43, u44, u45, u46, bu34, bu35, bu36, bu37, bu38, bu39, bu40, bu41, bu42, bu43, bu44, bu45, bu46, A47⟩ := xq_115 K29.1
  have e48 : u13 = u35 := xk_eqi (q := 1) K28 rfl A25 A47 rfl rfl
  subst e48
  show xw J ov 100 195 (1202, [(4, .int x4), (3, .ref 167), (2, .ref 115), (1, .ref 0), (0, .ref 1000000)], [.int r26], hh27) _
  refine xi_pop (pc' := 1203) kc_195_1202 rfl rfl ?_
  refine xi_goto (pc' := 1501) kc_195_1203 rfl ?_
  obtain ⟨v49, ev49⟩ : ∃ q : Int32, x4 + 6 = q := ⟨_, rfl⟩
  have zv49 : v49.toInt = (x4.toInt + 6) := by rw [← ev49]; exact (xz_add (X := x4.toInt) (Y := 6) rfl (by decide) (by omega) (by omega)).trans (by omega)
  refine xi_iinc (pc' := 1504) (x := x4) (v := v49) (lv' := [(4, .int v49), (3, .ref 167), (2, .ref 115), (1, .ref 0), (0, .ref 1000000)]) kc_195_1501 rfl rfl ev49 rfl (xm_lt ml_195 rfl) ?_
  refine xi_goto (pc' := 23) kc_195_1504 rfl ?_
  exact kk v49 hh27 (by omega) K29
set_option maxHeartbeats 8000000 in
theorem lc_27 {J : xe_J} {ov : List (List Int32)} (hJ : ∀ d mj as h, mj ≠ xe_loff → J d mj as h = none) (hov1 : ov[1]? = some [10, 0, 0, 0, 0, 0]) (hov2 : ov[2]? = some [99, 30, 50, 50, 1, 99999]) {xs : List Int32} (hov0 : ov[0]? = some xs) {Q : Option Value → xe_H → Prop} {h : xe_H} {x4 : Int32} (hi0 : 0 ≤ x4.toInt) (hi1 : x4.toInt + 6 ≤ xs.length) (hi2 : x4.toInt ≤ 3066) (T : xt h) (kk : ∀ (i : Int32) (h' : xe_H), i.toInt = x4.toInt + 6 → xk [(6, 0), (123, 0), (9, 0), (124, 0), (7, 0), (10, 0), (5, 0), (8, 0)] h h' → xw J ov 100 195 (23, [(4, .int i), (3, .ref 167), (2, .ref 115), (1, .ref 0), (0, .ref 1000000)], [], h') Q) : xw J ov 100 195 (1206, [(4, .int x4), (3, .ref 167), (2, .ref 115), (1, .ref 0), (0, .ref 1000000)], [], h) Q := by
  have K : xk [(6, 0), (123, 0), (9, 0), (124, 0), (7, 0), (10, 0), (5, 0), (8, 0)] h h := xk_re T
  refine xi_aload_n (pc' := 1207) (x := 0) kc_195_1206 rfl rfl ?_
  refine xi_aload_n (pc' := 1208) (x := 1000000) kc_195_1207 rfl rfl ?_
  refine xi_iload (pc' := 1210) (x := x4) kc_195_1208 rfl rfl ?_
  refine xi_iconst (pc' := 1211) (v := 1) kc_195_1210 rfl rfl ?_
  obtain ⟨v1, ev1⟩ : ∃ q : Int32, x4 + 1 = q := ⟨_, rfl⟩
  have zv1 : v1.toInt = (x4.toInt + 1) := by rw [← ev1]; exact (xz_add (X := x4.toInt) (Y := 1) rfl (by decide) (by omega) (by omega)).trans (by omega)
  refine xi_iadd (pc' := 1212) (v := v1) kc_195_1211 rfl ev1 ?_
  obtain ⟨a2, ea2⟩ : ∃ q : Int32, xs.getD (Int32.toNatClampNeg v1) 0 = q := ⟨_, rfl⟩
  have ra2 := xc_rng a2
  refine xi_ialoadO (pc' := 1213) (v := a2) kc_195_1212 rfl (by decide) hov0 (xi_in (by omega) (by omega)) ea2 ?_
  obtain ⟨u3, u4, bu3, bu4, A5⟩ := xq_0 K.1
  refine xi_virtual (mj := 172) (as := [.int a2]) (st1 := []) (lv0 := [(0, .ref 0), (1, .int a2)]) kc_195_1213 rfl rfl rfl rfl rfl A5 (Nat.le_of_ble_eq_true rfl) (hJ _ _ _ _ (by decide)) (xm_le ml_172 rfl) rfl ?_
  refine mt_172_0 hJ hov1 hov2 (d := 79) (x1 := a2) K.1 (fun r6 hh7 K8 => ?_)
  have br6 := xc_rng r6
  have K9 := xk_tr K K8 rfl
  obtain ⟨u10, u11, bu10, bu11, A12⟩ := xq_0 K9.1
  have e13 : u4 = u11 := xk_eqi (q := 9) K8 rfl A5 A12 rfl rfl
  subst e13
  show xw J ov 100 195 (1216, [(4, .int x4), (3, .ref 167), (2, .ref 115), (1, .ref 0), (0, .ref 1000000)], [.int r6], hh7) _
  refine xi_pop (pc' := 1217) kc_195_1216 rfl rfl ?_
  refine xi_aload_n (pc' := 1218) (x := 115) kc_195_1217 rfl rfl ?_
  refine xi_aload_n (pc' := 1219) (x := 1000000) kc_195_1218 rfl rfl ?_
  refine xi_iload (pc' := 1221) (x := x4) kc_195_1219 rfl rfl ?_
  refine xi_iconst (pc' := 1222) (v := 1) kc_195_1221 rfl rfl ?_
  refine xi_iadd (pc' := 1223) (v := v1) kc_195_1222 rfl ev1 ?_
  refine xi_ialoadO (pc' := 1224) (v := a2) kc_195_1223 rfl (by decide) hov0 (xi_in (by omega) (by omega)) ea2 ?_
  obtain ⟨u14, u15, u16, u17, u18, u19, u20, u21, u22, u23, u24, u25, u26, bu14, bu15, bu16, bu17, bu18, bu19, bu20, bu21, bu22, bu23, bu24, bu25, bu26, A27⟩ := xq_115 K9.1
  refine xi_virtual (mj := 68) (as := [.int a2]) (st1 := []) (lv0 := [(0, .ref 115), (1, .int a2)]) kc_195_1224 rfl rfl rfl rfl rfl A27 (Nat.le_of_ble_eq_true rfl) (hJ _ _ _ _ (by decide)) (xm_le ml_68 rfl) rfl ?_
  refine mt_68_0 hJ hov1 hov2 (d := 97) (x1 := a2) K9.1 (fun r28 hh29 K30 => ?_)
  have br28 := xc_rng r28
  have K31 := xk_tr K9 K30 rfl
  obtain ⟨u32, u33, bu32, bu33, A34⟩ := xq_0 K31.1
  have e35 : u4 = u33 := xk_eqi (q := 9) K30 rfl A12 A34 rfl rfl
  subst e35
  obtain ⟨u36, u37, u38, u39, u40, u41, u42, u43, u44, u45, u46, u47, u48, bu36, bu37, bu38, bu39, bu40, bu41, bu42, bu43, bu44, bu45, bu46, bu47, bu48, A49⟩ := xq_115 K31.1
  have e50 : u15 = u37 := xk_eqi (q := 1) K30 rfl A27 A49 rfl rfl
  subst e50
  show xw J ov 100 195 (1227, [(4, .int x4), (3, .ref 167), (2, .ref 115), (1, .ref 0), (0, .ref 1000000)], [.int r28], hh29) _
  refine xi_pop (pc' := 1228) kc_195_1227 rfl rfl ?_
  refine xi_goto (pc' := 1501) kc_195_1228 rfl ?_
  obtain ⟨v51, ev51⟩ : ∃ q : Int32, x4 + 6 = q := ⟨_, rfl⟩
  have zv51 : v51.toInt = (x4.toInt + 6) := by rw [← ev51]; exact (xz_add (X := x4.toInt) (Y := 6) rfl (by decide) (by omega) (by omega)).trans (by omega)
  refine xi_iinc (pc' := 1504) (x := x4) (v := v51) (lv' := [(4, .int v51), (3, .ref 167), (2, .ref 115), (1, .ref 0), (0, .ref 1000000)]) kc_195_1501 rfl rfl ev51 rfl (xm_lt ml_195 rfl) ?_
  refine xi_goto (pc' := 23) kc_195_1504 rfl ?_
  exact kk v51 hh29 (by omega) K31
set_option maxHeartbeats 8000000 in
theorem lc_28 {J : xe_J} {ov : List (List Int32)} (hJ : ∀ d mj as h, mj ≠ xe_loff → J d mj as h = none) (hov1 : ov[1]? = some [10, 0, 0, 0, 0, 0]) (hov2 : ov[2]? = some [99, 30, 50, 50, 1, 99999]) {xs : List Int32} (hov0 : ov[0]? = some xs) {Q : Option Value → xe_H → Prop} {h : xe_H} {x4 : Int32} (hi0 : 0 ≤ x4.toInt) (hi1 : x4.toInt + 6 ≤ xs.length) (hi2 : x4.toInt ≤ 3066) (T : xt h) (kk : ∀ (i : Int32) (h' : xe_H), i.toInt = x4.toInt + 6 → xk [(6, 0), (123, 0), (9, 0), (124, 0), (7, 0), (10, 0), (5, 0), (8, 0)] h h' → xw J ov 100 195 (23, [(4, .int i), (3, .ref 167), (2, .ref 115), (1, .ref 0), (0, .ref 1000000)], [], h') Q) : xw J ov 100 195 (1231, [(4, .int x4), (3, .ref 167), (2, .ref 115), (1, .ref 0), (0, .ref 1000000)], [], h) Q := by
  have K : xk [(6, 0), (123, 0), (9, 0), (124, 0), (7, 0), (10, 0), (5, 0), (8, 0)] h h := xk_re T
  refine xi_aload_n (pc' := 1232) (x := 0) kc_195_1231 rfl rfl ?_
  refine xi_aload_n (pc' := 1233) (x := 1000000) kc_195_1232 rfl rfl ?_
  refine xi_iload (pc' := 1235) (x := x4) kc_195_1233 rfl rfl ?_
  refine xi_iconst (pc' := 1236) (v := 1) kc_195_1235 rfl rfl ?_
  obtain ⟨v1, ev1⟩ : ∃ q : Int32, x4 + 1 = q := ⟨_, rfl⟩
  have zv1 : v1.toInt = (x4.toInt + 1) := by rw [← ev1]; exact (xz_add (X := x4.toInt) (Y := 1) rfl (by decide) (by omega) (by omega)).trans (by omega)
  refine xi_iadd (pc' := 1237) (v := v1) kc_195_1236 rfl ev1 ?_
  obtain ⟨a2, ea2⟩ : ∃ q : Int32, xs.getD (Int32.toNatClampNeg v1) 0 = q := ⟨_, rfl⟩
  have ra2 := xc_rng a2
  refine xi_ialoadO (pc' := 1238) (v := a2) kc_195_1237 rfl (by decide) hov0 (xi_in (by omega) (by omega)) ea2 ?_
  refine xi_aload_n (pc' := 1239) (x := 1000000) kc_195_1238 rfl rfl ?_
  refine xi_iload (pc' := 1241) (x := x4) kc_195_1239 rfl rfl ?_
  refine xi_iconst (pc' := 1242) (v := 2) kc_195_1241 rfl rfl ?_
  obtain ⟨v3, ev3⟩ : ∃ q : Int32, x4 + 2 = q := ⟨_, rfl⟩
  have zv3 : v3.toInt = (x4.toInt + 2) := by rw [← ev3]; exact (xz_add (X := x4.toInt) (Y := 2) rfl (by decide) (by omega) (by omega)).trans (by omega)
  refine xi_iadd (pc' := 1243) (v := v3) kc_195_1242 rfl ev3 ?_
  obtain ⟨a4, ea4⟩ : ∃ q : Int32, xs.getD (Int32.toNatClampNeg v3) 0 = q := ⟨_, rfl⟩
  have ra4 := xc_rng a4
  refine xi_ialoadO (pc' := 1244) (v := a4) kc_195_1243 rfl (by decide) hov0 (xi_in (by omega) (by omega)) ea4 ?_
  refine xi_aload_n (pc' := 1245) (x := 1000000) kc_195_1244 rfl rfl ?_
  refine xi_iload (pc' := 1247) (x := x4) kc_195_1245 rfl rfl ?_
  refine xi_iconst (pc' := 1248) (v := 3) kc_195_1247 rfl rfl ?_
  obtain ⟨v5, ev5⟩ : ∃ q : Int32, x4 + 3 = q := ⟨_, rfl⟩
  have zv5 : v5.toInt = (x4.toInt + 3) := by rw [← ev5]; exact (xz_add (X := x4.toInt) (Y := 3) rfl (by decide) (by omega) (by omega)).trans (by omega)
  refine xi_iadd (pc' := 1249) (v := v5) kc_195_1248 rfl ev5 ?_
  obtain ⟨a6, ea6⟩ : ∃ q : Int32, xs.getD (Int32.toNatClampNeg v5) 0 = q := ⟨_, rfl⟩
  have ra6 := xc_rng a6
  refine xi_ialoadO (pc' := 1250) (v := a6) kc_195_1249 rfl (by decide) hov0 (xi_in (by omega) (by omega)) ea6 ?_
  refine xi_aload_n (pc' := 1251) (x := 1000000) kc_195_1250 rfl rfl ?_
  refine xi_iload (pc' := 1253) (x := x4) kc_195_1251 rfl rfl ?_
  refine xi_iconst (pc' := 1254) (v := 4) kc_195_1253 rfl rfl ?_
  obtain ⟨v7, ev7⟩ : ∃ q : Int32, x4 + 4 = q := ⟨_, rfl⟩
  have zv7 : v7.toInt = (x4.toInt + 4) := by rw [← ev7]; exact (xz_add (X := x4.toInt) (Y := 4) rfl (by decide) (by omega) (by omega)).trans (by omega)
  refine xi_iadd (pc' := 1255) (v := v7) kc_195_1254 rfl ev7 ?_
  obtain ⟨a8, ea8⟩ : ∃ q : Int32, xs.getD (Int32.toNatClampNeg v7) 0 = q := ⟨_, rfl⟩
  have ra8 := xc_rng a8
  refine xi_ialoadO (pc' := 1256) (v := a8) kc_195_1255 rfl (by decide) hov0 (xi_in (by omega) (by omega)) ea8 ?_
  obtain ⟨u9, u10, bu9, bu10, A11⟩ := xq_0 K.1
  refine xi_virtual (mj := 177) (as := [.int a2, .int a4, .int a6, .int a8]) (st1 := []) (lv0 := [(0, .ref 0), (1, .int a2), (2, .int a4), (3, .int a6), (4, .int a8)]) kc_195_1256 rfl rfl rfl rfl rfl A11 (Nat.le_of_ble_eq_true rfl) (hJ _ _ _ _ (by decide)) (xm_le ml_177 rfl) rfl ?_
  refine mt_177_0 hJ hov1 hov2 (d := 98) (x1 := a2) (x2 := a4) (x3 := a6) (x4 := a8) K.1 (fun r12 hh13 br12 K14 => ?_)
  have K15 := xk_tr K K14 rfl
  obtain ⟨u16, u17, bu16, bu17, A18⟩ := xq_0 K15.1
  have e19 : u10 = u17 := xk_eqi (q := 9) K14 rfl A11 A18 rfl rfl
  subst e19
  show xw J ov 100 195 (1259, [(4, .int x4), (3, .ref 167), (2, .ref 115), (1, .ref 0), (0, .ref 1000000)], [.int r12], hh13) _
  refine xi_pop (pc' := 1260) kc_195_1259 rfl rfl ?_
  refine xi_aload_n (pc' := 1261) (x := 115) kc_195_1260 rfl rfl ?_
  refine xi_aload_n (pc' := 1262) (x := 1000000) kc_195_1261 rfl rfl ?_
  refine xi_iload (pc' := 1264) (x := x4) kc_195_1262 rfl rfl ?_
  refine xi_iconst (pc' := 1265) (v := 1) kc_195_1264 rfl rfl ?_
  refine xi_iadd (pc' := 1266) (v := v1) kc_195_1265 rfl ev1 ?_
  refine xi_ialoadO (pc' := 1267) (v := a2) kc_195_1266 rfl (by decide) hov0 (xi_in (by omega) (by omega)) ea2 ?_
  refine xi_aload_n (pc' := 1268) (x := 1000000) kc_195_1267 rfl rfl ?_
  refine xi_iload (pc' := 1270) (x := x4) kc_195_1268 rfl rfl ?_
  refine xi_iconst (pc' := 1271) (v := 2) kc_195_1270 rfl rfl ?_
  refine xi_iadd (pc' := 1272) (v := v3) kc_195_1271 rfl ev3 ?_
  refine xi_ialoadO (pc' := 1273) (v := a4) kc_195_1272 rfl (by decide) hov0 (xi_in (by omega) (by omega)) ea4 ?_
  refine xi_aload_n (pc' := 1274) (x := 1000000) kc_195_1273 rfl rfl ?_
  refine xi_iload (pc' := 1276) (x := x4) kc_195_1274 rfl rfl ?_
  refine xi_iconst (pc' := 1277) (v := 3) kc_195_1276 rfl rfl ?_
  refine xi_iadd (pc' := 1278) (v := v5) kc_195_1277 rfl ev5 ?_
  refine xi_ialoadO (pc' := 1279) (v := a6) kc_195_1278 rfl (by decide) hov0 (xi_in (by omega) (by omega)) ea6 ?_
  refine xi_aload_n (pc' := 1280) (x := 1000000) kc_195_1279 rfl rfl ?_
  refine xi_iload (pc' := 1282) (x := x4) kc_195_1280 rfl rfl ?_
  refine xi_iconst (pc' := 1283) (v := 4) kc_195_1282 rfl rfl ?_
  refine xi_iadd (pc' := 1284) (v := v7) kc_195_1283 rfl ev7 ?_
  refine xi_ialoadO (pc' := 1285) (v := a8) kc_195_1284 rfl (by decide) hov0 (xi_in (by omega) (by omega)) ea8 ?_
  obtain ⟨u20, u21, u22, u23, u24, u25, u26, u27, u28, u29, u30, u31, u32, bu20, bu21, bu22, bu23, bu24, bu25, bu26, bu27, bu28, bu29, bu30, bu31, bu32, A33⟩ := xq_115 K15.1
  refine xi_virtual (mj := 70) (as := [.int a2, .int a4, .int a6, .int a8]) (st1 := []) (lv0 := [(0, .ref 115), (1, .int a2), (2, .int a4), (3, .int a6), (4, .int a8)]) kc_195_1285 rfl rfl rfl rfl rfl A33 (Nat.le_of_ble_eq_true rfl) (hJ _ _ _ _ (by decide)) (xm_le ml_70 rfl) rfl ?_
  refine mt_70_0 hJ hov1 hov2 (d := 98) (x1 := a2) (x2 := a4) (x3 := a6) (x4 := a8) K15.1 (fun r34 hh35 br34 K36 => ?_)
  have K37 := xk_tr K15 K36 rfl
  obtain ⟨u38, u39, bu38, bu39, A40⟩ := xq_0 K37.1
  have e41 : u10 = u39 := xk_eqi (q := 9) K36 rfl A18 A40 rfl rfl
  subst e41
  obtain ⟨u42, u43, u44, u45, u46, u47, u48, u49, u50, u51, u52, u53, u54, bu42, bu43, bu44, bu45, bu46, bu47, bu48, bu49, bu50, bu51, bu52, bu53, bu54, A55⟩ := xq_115 K37.1
  have e56 : u21 = u43 := xk_eqi (q := 1) K36 rfl A33 A55 rfl rfl
  subst e56
  show xw J ov 100 195 (1288, [(4, .int x4), (3, .ref 167), (2, .ref 115), (1, .ref 0), (0, .ref 1000000)], [.int r34], hh35) _
  refine xi_pop (pc' := 1289) kc_195_1288 rfl rfl ?_
  refine xi_goto (pc' := 1501) kc_195_1289 rfl ?_
  obtain ⟨v57, ev57⟩ : ∃ q : Int32, x4 + 6 = q := ⟨_, rfl⟩
  have zv57 : v57.toInt = (x4.toInt + 6) := by rw [← ev57]; exact (xz_add (X := x4.toInt) (Y := 6) rfl (by decide) (by omega) (by omega)).trans (by omega)
  refine xi_iinc (pc' := 1504) (x := x4) (v := v57) (lv' := [(4, .int v57), (3, .ref 167), (2, .ref 115), (1, .ref 0), (0, .ref 1000000)]) kc_195_1501 rfl rfl ev57 rfl (xm_lt ml_195 rfl) ?_
  refine xi_goto (pc' := 23) kc_195_1504 rfl ?_
  exact kk v57 hh35 (by omega) K37
set_option maxHeartbeats 8000000 in
theorem lc_29 {J : xe_J} {ov : List (List Int32)} (hJ : ∀ d mj as h, mj ≠ xe_loff → J d mj as h = none) (hov1 : ov[1]? = some [10, 0, 0, 0, 0, 0]) (hov2 : ov[2]? = some [99, 30, 50, 50, 1, 99999]) {xs : List Int32} (hov0 : ov[0]? = some xs) {Q : Option Value → xe_H → Prop} {h : xe_H} {x4 : Int32} (hi0 : 0 ≤ x4.toInt) (hi1 : x4.toInt + 6 ≤ xs.length) (hi2 : x4.toInt ≤ 3066) (T : xt h) (kk : ∀ (i : Int32) (h' : xe_H), i.toInt = x4.toInt + 6 → xk [(6, 0), (123, 0), (9, 0), (124, 0), (7, 0), (10, 0), (5, 0), (8, 0)] h h' → xw J ov 100 195 (23, [(4, .int i), (3, .ref 167), (2, .ref 115), (1, .ref 0), (0, .ref 1000000)], [], h') Q) : xw J ov 100 195 (1292, [(4, .int x4), (3, .ref 167), (2, .ref 115), (1, .ref 0), (0, .ref 1000000)], [], h) Q := by
  have K : xk [(6, 0), (123, 0), (9, 0), (124, 0), (7, 0), (10, 0), (5, 0), (8, 0)] h h := xk_re T
  refine xi_aload_n (pc' := 1293) (x := 0) kc_195_1292 rfl rfl ?_
  refine xi_aload_n (pc' := 1294) (x := 1000000) kc_195_1293 rfl rfl ?_
  refine xi_iload (pc' := 1296) (x := x4) kc_195_1294 rfl rfl ?_
  refine xi_iconst (pc' := 1297) (v := 1) kc_195_1296 rfl rfl ?_
  obtain ⟨v1, ev1⟩ : ∃ q : Int32, x4 + 1 = q := ⟨_, rfl⟩
  have zv1 : v1.toInt = (x4.toInt + 1) := by rw [← ev1]; exact (xz_add (X := x4.toInt) (Y := 1) rfl (by decide) (by omega) (by omega)).trans (by omega)
  refine xi_iadd (pc' := 1298) (v := v1) kc_195_1297 rfl ev1 ?_
  obtain ⟨a2, ea2⟩ : ∃ q : Int32, xs.getD (Int32.toNatClampNeg v1) 0 = q := ⟨_, rfl⟩
  have ra2 := xc_rng a2
  refine xi_ialoadO (pc' := 1299) (v := a2) kc_195_1298 rfl (by decide) hov0 (xi_in (by omega) (by omega)) ea2 ?_
  by_cases c3 : a2.toInt = 0
  · refine xi_ift (pc' := 1306) kc_195_1299 rfl (xc_eq_t (X := a2.toInt) (Y := 0) rfl (by decide) (by omega)) ?_
    refine xi_iconst (pc' := 1307) (v := 0) kc_195_1306 rfl rfl ?_
    obtain ⟨u4, u5, bu4, bu5, A6⟩ := xq_0 K.1
    refine xi_virtual (mj := 179) (as := [.int 0]) (st1 := []) (lv0 := [(0, .ref 0), (1, .int 0)]) kc_195_1307 rfl rfl rfl rfl rfl A6 (Nat.le_of_ble_eq_true rfl) (hJ _ _ _ _ (by decide)) (xm_le ml_179 rfl) rfl ?_
    have zc0 : (0 : Int32).toInt = 0 := by decide
    refine mt_179_0 hJ hov1 hov2 (d := 98) (x1 := 0) K.1 (by first | omega | decide) (fun r7 hh8 br7 K9 => ?_)
    have K10 := xk_tr K K9 rfl
    obtain ⟨u11, u12, bu11, bu12, A13⟩ := xq_0 K10.1
    have e14 : u5 = u12 := xk_eqi (q := 9) K9 rfl A6 A13 rfl rfl
    subst e14
    show xw J ov 100 195 (1310, [(4, .int x4), (3, .ref 167), (2, .ref 115), (1, .ref 0), (0, .ref 1000000)], [.int r7], hh8) _
    refine xi_pop (pc' := 1311) kc_195_1310 rfl rfl ?_
    refine xi_aload_n (pc' := 1312) (x := 115) kc_195_1311 rfl rfl ?_
    refine xi_aload_n (pc' := 1313) (x := 1000000) kc_195_1312 rfl rfl ?_
    refine xi_iload (pc' := 1315) (x := x4) kc_195_1313 rfl rfl ?_
    refine xi_iconst (pc' := 1316) (v := 1) kc_195_1315 rfl rfl ?_
    refine xi_iadd (pc' := 1317) (v := v1) kc_195_1316 rfl ev1 ?_
    refine xi_ialoadO (pc' := 1318) (v := a2) kc_195_1317 rfl (by decide) hov0 (xi_in (by omega) (by omega)) ea2 ?_
    refine xi_ift (pc' := 1325) kc_195_1318 rfl (xc_eq_t (X := a2.toInt) (Y := 0) rfl (by decide) (by omega)) ?_
    refine xi_iconst (pc' := 1326) (v := 0) kc_195_1325 rfl rfl ?_
    obtain ⟨u15, u16, u17, u18, u19, u20, u21, u22, u23, u24, u25, u26, u27, bu15, bu16, bu17, bu18, bu19, bu20, bu21, bu22, bu23, bu24, bu25, bu26, bu27, A28⟩ := xq_115 K10.1
    refine xi_virtual (mj := 71) (as := [.int 0]) (st1 := []) (lv0 := [(0, .ref 115), (1, .int 0)]) kc_195_1326 rfl rfl rfl rfl rfl A28 (Nat.le_of_ble_eq_true rfl) (hJ _ _ _ _ (by decide)) (xm_le ml_71 rfl) rfl ?_
    have zc0 : (0 : Int32).toInt = 0 := by decide
    refine mt_71_0 hJ hov1 hov2 (d := 98) (x1 := 0) K10.1 (by first | omega | decide) (fun r29 hh30 br29 K31 => ?_)
    have K32 := xk_tr K10 K31 rfl
    obtain ⟨u33, u34, bu33, bu34, A35⟩ := xq_0 K32.1
    have e36 : u5 = u34 := xk_eqi (q := 9) K31 rfl A13 A35 rfl rfl
    subst e36
    obtain ⟨u37, u38, u39, u40, u41, u42, u43, u44, u45, u46, u47, u48, u49, bu37, bu38, bu39, bu40, bu41, bu42, bu43, bu44, bu45, bu46, bu47, bu48, bu49, A50⟩ := xq_115 K32.1
    have e51 : u16 = u38 := xk_eqi (q := 1) K31 rfl A28 A50 rfl rfl
    subst e51
    show xw J ov 100 195 (1329, [(4, .int x4), (3, .ref 167), (2, .ref 115), (1, .ref 0), (0, .ref 1000000)], [.int r29], hh30) _
    refine xi_pop (pc' := 1330) kc_195_1329 rfl rfl ?_
    refine xi_goto (pc' := 1501) kc_195_1330 rfl ?_
    obtain ⟨v52, ev52⟩ : ∃ q : Int32, x4 + 6 = q := ⟨_, rfl⟩
    have zv52 : v52.toInt = (x4.toInt + 6) := by rw [← ev52]; exact (xz_add (X := x4.toInt) (Y := 6) rfl (by decide) (by omega) (by omega)).trans (by omega)
    refine xi_iinc (pc' := 1504) (x := x4) (v := v52) (lv' := [(4, .int v52), (3, .ref 167), (2, .ref 115), (1, .ref 0), (0, .ref 1000000)]) kc_195_1501 rfl rfl ev52 rfl (xm_lt ml_195 rfl) ?_
    refine xi_goto (pc' := 23) kc_195_1504 rfl ?_
    exact kk v52 hh30 (by omega) K32
  · refine xi_iff (pc' := 1302) kc_195_1299 rfl (xc_eq_f (X := a2.toInt) (Y := 0) rfl (by decide) (by omega)) ?_
    refine xi_iconst (pc' := 1303) (v := 1) kc_195_1302 rfl rfl ?_
    refine xi_goto (pc' := 1307) kc_195_1303 rfl ?_
    obtain ⟨u53, u54, bu53, bu54, A55⟩ := xq_0 K.1
    refine xi_virtual (mj := 179) (as := [.int 1]) (st1 := []) (lv0 := [(0, .ref 0), (1, .int 1)]) kc_195_1307 rfl rfl rfl rfl rfl A55 (Nat.le_of_ble_eq_true rfl) (hJ _ _ _ _ (by decide)) (xm_le ml_179 rfl) rfl ?_
    have zc1 : (1 : Int32).toInt = 1 := by decide
    refine mt_179_0 hJ hov1 hov2 (d := 98) (x1 := 1) K.1 (by first | omega | decide) (fun r56 hh57 br56 K58 => ?_)
    have K59 := xk_tr K K58 rfl
    obtain ⟨u60, u61, bu60, bu61, A62⟩ := xq_0 K59.1
    have e63 : u54 = u61 := xk_eqi (q := 9) K58 rfl A55 A62 rfl rfl
    subst e63
    show xw J ov 100 195 (1310, [(4, .int x4), (3, .ref 167), (2, .ref 115), (1, .ref 0), (0, .ref 1000000)], [.int r56], hh57) _
    refine xi_pop (pc' := 1311) kc_195_1310 rfl rfl ?_
    refine xi_aload_n (pc' := 1312) (x := 115) kc_195_1311 rfl rfl ?_
    refine xi_aload_n (pc' := 1313) (x := 1000000) kc_195_1312 rfl rfl ?_
    refine xi_iload (pc' := 1315) (x := x4) kc_195_1313 rfl rfl ?_
    refine xi_iconst (pc' := 1316) (v := 1) kc_195_1315 rfl rfl ?_
    refine xi_iadd (pc' := 1317) (v := v1) kc_195_1316 rfl ev1 ?_
    refine xi_ialoadO (pc' := 1318) (v := a2) kc_195_1317 rfl (by decide) hov0 (xi_in (by omega) (by omega)) ea2 ?_
    refine xi_iff (pc' := 1321) kc_195_1318 rfl (xc_eq_f (X := a2.toInt) (Y := 0) rfl (by decide) (by omega)) ?_
    refine xi_iconst (pc' := 1322) (v := 1) kc_195_1321 rfl rfl ?_
    refine xi_goto (pc' := 1326) kc_195_1322 rfl ?_
    obtain ⟨u64, u65, u66, u67, u68, u69, u70, u71, u72, u73, u74, u75, u76, bu64, bu65, bu66, bu67, bu68, bu69, bu70, bu71, bu72, bu73, bu74, bu75, bu76, A77⟩ := xq_115 K59.1
    refine xi_virtual (mj := 71) (as := [.int 1]) (st1 := []) (lv0 := [(0, .ref 115), (1, .int 1)]) kc_195_1326 rfl rfl rfl rfl rfl A77 (Nat.le_of_ble_eq_true rfl) (hJ _ _ _ _ (by decide)) (xm_le ml_71 rfl) rfl ?_
    have zc1 : (1 : Int32).toInt = 1 := by decide
    refine mt_71_0 hJ hov1 hov2 (d := 98) (x1 := 1) K59.1 (by first | omega | decide) (fun r78 hh79 br78 K80 => ?_)
    have K81 := xk_tr K59 K80 rfl
    obtain ⟨u82, u83, bu82, bu83, A84⟩ := xq_0 K81.1
    have e85 : u54 = u83 := xk_eqi (q := 9) K80 rfl A62 A84 rfl rfl
    subst e85
    obtain ⟨u86, u87, u88, u89, u90, u91, u92, u93, u94, u95, u96, u97, u98, bu86, bu87, bu88, bu89, bu90, bu91, bu92, bu93, bu94, bu95, bu96, bu97, bu98, A99⟩ := xq_115 K81.1
    have e100 : u65 = u87 := xk_eqi (q := 1) K80 rfl A77 A99 rfl rfl
    subst e100
    show xw J ov 100 195 (1329, [(4, .int x4), (3, .ref 167), (2, .ref 115), (1, .ref 0), (0, .ref 1000000)], [.int r78], hh79) _
    refine xi_pop (pc' := 1330) kc_195_1329 rfl rfl ?_
    refine xi_goto (pc' := 1501) kc_195_1330 rfl ?_
    obtain ⟨v101, ev101⟩ : ∃ q : Int32, x4 + 6 = q := ⟨_, rfl⟩
    have zv101 : v101.toInt = (x4.toInt + 6) := by rw [← ev101]; exact (xz_add (X := x4.toInt) (Y := 6) rfl (by decide) (by omega) (by omega)).trans (by omega)
    refine xi_iinc (pc' := 1504) (x := x4) (v := v101) (lv' := [(4, .int v101), (3, .ref 167), (2, .ref 115), (1, .ref 0), (0, .ref 1000000)]) kc_195_1501 rfl rfl ev101 rfl (xm_lt ml_195 rfl) ?_
    refine xi_goto (pc' := 23) kc_195_1504 rfl ?_
    exact kk v101 hh79 (by omega) K81
set_option maxHeartbeats 8000000 in
theorem lc_30 {J : xe_J} {ov : List (List Int32)} (hJ : ∀ d mj as h, mj ≠ xe_loff → J d mj as h = none) (hov1 : ov[1]? = some [10, 0, 0, 0, 0, 0]) (hov2 : ov[2]? = some [99, 30, 50, 50, 1, 99999]) {xs : List Int32} (hov0 : ov[0]? = some xs) {Q : Option Value → xe_H → Prop} {h : xe_H} {x4 : Int32} (hi0 : 0 ≤ x4.toInt) (hi1 : x4.toInt + 6 ≤ xs.length) (hi2 : x4.toInt ≤ 3066) (T : xt h) (kk : ∀ (i : Int32) (h' : xe_H), i.toInt = x4.toInt + 6 → xk [(6, 0), (123, 0), (9, 0), (124, 0), (7, 0), (10, 0), (5, 0), (8, 0)] h h' → xw J ov 100 195 (23, [(4, .int i), (3, .ref 167), (2, .ref 115), (1, .ref 0), (0, .ref 1000000)], [], h') Q) : xw J ov 100 195 (1333, [(4, .int x4), (3, .ref 167), (2, .ref 115), (1, .ref 0), (0, .ref 1000000)], [], h) Q := by
  have K : xk [(6, 0), (123, 0), (9, 0), (124, 0), (7, 0), (10, 0), (5, 0), (8, 0)] h h := xk_re T
  refine xi_aload_n (pc' := 1334) (x := 0) kc_195_1333 rfl rfl ?_
  refine xi_aload_n (pc' := 1335) (x := 1000000) kc_195_1334 rfl rfl ?_
  refine xi_iload (pc' := 1337) (x := x4) kc_195_1335 rfl rfl ?_
  refine xi_iconst (pc' := 1338) (v := 1) kc_195_1337 rfl rfl ?_
  obtain ⟨v1, ev1⟩ : ∃ q : Int32, x4 + 1 = q := ⟨_, rfl⟩
  have zv1 : v1.toInt = (x4.toInt + 1) := by rw [← ev1]; exact (xz_add (X := x4.toInt) (Y := 1) rfl (by decide) (by omega) (by omega)).trans (by omega)
  refine xi_iadd (pc' := 1339) (v := v1) kc_195_1338 rfl ev1 ?_
  obtain ⟨a2, ea2⟩ : ∃ q : Int32, xs.getD (Int32.toNatClampNeg v1) 0 = q := ⟨_, rfl⟩
  have ra2 := xc_rng a2
  refine xi_ialoadO (pc' := 1340) (v := a2) kc_195_1339 rfl (by decide) hov0 (xi_in (by omega) (by omega)) ea2 ?_
  by_cases c3 : a2.toInt = 0
  · refine xi_ift (pc' := 1347) kc_195_1340 rfl (xc_eq_t (X := a2.toInt) (Y := 0) rfl (by decide) (by omega)) ?_
    refine xi_iconst (pc' := 1348) (v := 0) kc_195_1347 rfl rfl ?_
    refine xi_aload_n (pc' := 1349) (x := 1000000) kc_195_1348 rfl rfl ?_
    refine xi_iload (pc' := 1351) (x := x4) kc_195_1349 rfl rfl ?_
    refine xi_iconst (pc' := 1352) (v := 2) kc_195_1351 rfl rfl ?_
    obtain ⟨v4, ev4⟩ : ∃ q : Int32, x4 + 2 = q := ⟨_, rfl⟩
    have zv4 : v4.toInt = (x4.toInt + 2) := by rw [← ev4]; exact (xz_add (X := x4.toInt) (Y := 2) rfl (by decide) (by omega) (by omega)).trans (by omega)
    refine xi_iadd (pc' := 1353) (v := v4) kc_195_1352 rfl ev4 ?_
    obtain ⟨a5, ea5⟩ : ∃ q : Int32, xs.getD (Int32.toNatClampNeg v4) 0 = q := ⟨_, rfl⟩
    have ra5 := xc_rng a5
    refine xi_ialoadO (pc' := 1354) (v := a5) kc_195_1353 rfl (by decide) hov0 (xi_in (by omega) (by omega)) ea5 ?_
    refine xi_aload_n (pc' := 1355) (x := 1000000) kc_195_1354 rfl rfl ?_
    refine xi_iload (pc' := 1357) (x := x4) kc_195_1355 rfl rfl ?_
    refine xi_iconst (pc' := 1358) (v := 3) kc_195_1357 rfl rfl ?_
    obtain ⟨v6, ev6⟩ : ∃ q : Int32, x4 + 3 = q := ⟨_, rfl⟩
    have zv6 : v6.toInt = (x4.toInt + 3) := by rw [← ev6]; exact (xz_add (X := x4.toInt) (Y := 3) rfl (by decide) (by omega) (by omega)).trans (by omega)
    refine xi_iadd (pc' := 1359) (v := v6) kc_195_1358 rfl ev6 ?_
    obtain ⟨a7, ea7⟩ : ∃ q : Int32, xs.getD (Int32.toNatClampNeg v6) 0 = q := ⟨_, rfl⟩
    have ra7 := xc_rng a7
    refine xi_ialoadO (pc' := 1360) (v := a7) kc_195_1359 rfl (by decide) hov0 (xi_in (by omega) (by omega)) ea7 ?_
    by_cases c8 : a7.toInt = 0
    · refine xi_ift (pc' := 1367) kc_195_1360 rfl (xc_eq_t (X := a7.toInt) (Y := 0) rfl (by decide) (by omega)) ?_
      refine xi_iconst (pc' := 1368) (v := 0) kc_195_1367 rfl rfl ?_
      obtain ⟨u9, u10, bu9, bu10, A11⟩ := xq_0 K.1
      refine xi_virtual (mj := 180) (as := [.int 0, .int a5, .int 0]) (st1 := []) (lv0 := [(0, .ref 0), (1, .int 0), (2, .int a5), (3, .int 0)]) kc_195_1368 rfl rfl rfl rfl rfl A11 (Nat.le_of_ble_eq_true rfl) (hJ _ _ _ _ (by decide)) (xm_le ml_180 rfl) rfl ?_
      have zc0 : (0 : Int32).toInt = 0 := by decide
      refine mt_180_0 hJ hov1 hov2 (d := 97) (x1 := 0) (x2 := a5) (x3 := 0) K.1 (by first | omega | decide) (by first | omega | decide) (fun r12 hh13 br12 K14 => ?_)
      have K15 := xk_tr K K14 rfl
      obtain ⟨u16, u17, bu16, bu17, A18⟩ := xq_0 K15.1
      have e19 : u10 = u17 := xk_eqi (q := 9) K14 rfl A11 A18 rfl rfl
      subst e19
      show xw J ov 100 195 (1371, [(4, .int x4), (3, .ref 167), (2, .ref 115), (1, .ref 0), (0, .ref 1000000)], [.int r12], hh13) _
      refine xi_pop (pc' := 1372) kc_195_1371 rfl rfl ?_
      refine xi_aload_n (pc' := 1373) (x := 115) kc_195_1372 rfl rfl ?_
      refine xi_aload_n (pc' := 1374) (x := 1000000) kc_195_1373 rfl rfl ?_
      refine xi_iload (pc' := 1376) (x := x4) kc_195_1374 rfl rfl ?_
      refine xi_iconst (pc' := 1377) (v := 1) kc_195_1376 rfl rfl ?_
      refine xi_iadd (pc' := 1378) (v := v1) kc_195_1377 rfl ev1 ?_
      refine xi_ialoadO (pc' := 1379) (v := a2) kc_195_1378 rfl (by decide) hov0 (xi_in (by omega) (by omega)) ea2 ?_
      refine xi_ift (pc' := 1386) kc_195_1379 rfl (xc_eq_t (X := a2.toInt) (Y := 0) rfl (by decide) (by omega)) ?_
      refine xi_iconst (pc' := 1387) (v := 0) kc_195_1386 rfl rfl ?_
      refine xi_aload_n (pc' := 1388) (x := 1000000) kc_195_1387 rfl rfl ?_
      refine xi_iload (pc' := 1390) (x := x4) kc_195_1388 rfl rfl ?_
      refine xi_iconst (pc' := 1391) (v := 2) kc_195_1390 rfl rfl ?_
      refine xi_iadd (pc' := 1392) (v := v4) kc_195_1391 rfl ev4 ?_
      refine xi_ialoadO (pc' := 1393) (v := a5) kc_195_1392 rfl (by decide) hov0 (xi_in (by omega) (by omega)) ea5 ?_
      refine xi_aload_n (pc' := 1394) (x := 1000000) kc_195_1393 rfl rfl ?_
      refine xi_iload (pc' := 1396) (x := x4) kc_195_1394 rfl rfl ?_
      refine xi_iconst (pc' := 1397) (v := 3) kc_195_1396 rfl rfl ?_
      refine xi_iadd (pc' := 1398) (v := v6) kc_195_1397 rfl ev6 ?_
      refine xi_ialoadO (pc' := 1399) (v := a7) kc_195_1398 rfl (by decide) hov0 (xi_in (by omega) (by omega)) ea7 ?_
      refine xi_ift (pc' := 1406) kc_195_1399 rfl (xc_eq_t (X := a7.toInt) (Y := 0) rfl (by decide) (by omega)) ?_
      refine xi_iconst (pc' := 1407) (v := 0) kc_195_1406 rfl rfl ?_
      obtain ⟨u20, u21, u22, u23, u24, u25, u26, u27, u28, u29, u30, u31, u32, bu20, bu21, bu22, bu23, bu24, bu25, bu26, bu27, bu28, bu29, bu30, bu31, bu32, A33⟩ := xq_115 K15.1
      refine xi_virtual (mj := 72) (as := [.int 0, .int a5, .int 0]) (st1 := []) (lv0 := [(0, .ref 115), (1, .int 0), (2, .int a5), (3, .int 0)]) kc_195_1407 rfl rfl rfl rfl rfl A33 (Nat.le_of_ble_eq_true rfl) (hJ _ _ _ _ (by decide)) (xm_le ml_72 rfl) rfl ?_
      have zc0 : (0 : Int32).toInt = 0 := by decide
      refine mt_72_0 hJ hov1 hov2 (d := 98) (x1 := 0) (x2 := a5) (x3 := 0) K15.1 (by first | omega | decide) (by first | omega | decide) (fun r34 hh35 br34 K36 => ?_)
      have K37 := xk_tr K15 K36 rfl
      obtain ⟨u38, u39, bu38, bu39, A40⟩ := xq_0 K37.1
      have e41 : u10 = u39 := xk_eqi (q := 9) K36 rfl A18 A40 rfl rfl
      subst e41
      obtain ⟨u42, u43, u44, u45, u46, u47, u48, u49, u50, u51, u52, u53, u54, bu42, bu43, bu44, bu45, bu46, bu47, bu48, bu49, bu50, bu51, bu52, bu53, bu54, A55⟩ := xq_115 K37.1
      have e56 : u21 = u43 := xk_eqi (q := 1) K36 rfl A33 A55 rfl rfl
      subst e56
      show xw J ov 100 195 (1410, [(4, .int x4), (3, .ref 167), (2, .ref 115), (1, .ref 0), (0, .ref 1000000)], [.int r34], hh35) _
      refine xi_pop (pc' := 1411) kc_195_1410 rfl rfl ?_
      refine xi_goto (pc' := 1501) kc_195_1411 rfl ?_
      obtain ⟨v57, ev57⟩ : ∃ q : Int32, x4 + 6 = q := ⟨_, rfl⟩
      have zv57 : v57.toInt = (x4.toInt + 6) := by rw [← ev57]; exact (xz_add (X := x4.toInt) (Y := 6) rfl (by decide) (by omega) (by omega)).trans (by omega)
      refine xi_iinc (pc' := 1504) (x := x4) (v := v57) (lv' := [(4, .int v57), (3, .ref 167), (2, .ref 115), (1, .ref 0), (0, .ref 1000000)]) kc_195_1501 rfl rfl ev57 rfl (xm_lt ml_195 rfl) ?_
      refine xi_goto (pc' := 23) kc_195_1504 rfl ?_
      exact kk v57 hh35 (by omega) K37
    · refine xi_iff (pc' := 1363) kc_195_1360 rfl (xc_eq_f (X := a7.toInt) (Y := 0) rfl (by decide) (by omega)) ?_
      refine xi_iconst (pc' := 1364) (v := 1) kc_195_1363 rfl rfl ?_
      refine xi_goto (pc' := 1368) kc_195_1364 rfl ?_
      obtain ⟨u58, u59, bu58, bu59, A60⟩ := xq_0 K.1
      refine xi_virtual (mj := 180) (as := [.int 0, .int a5, .int 1]) (st1 := []) (lv0 := [(0, .ref 0), (1, .int 0), (2, .int a5), (3, .int 1)]) kc_195_1368 rfl rfl rfl rfl rfl A60 (Nat.le_of_ble_eq_true rfl) (hJ _ _ _ _ (by decide)) (xm_le ml_180 rfl) rfl ?_
      have zc0 : (0 : Int32).toInt = 0 := by decide
      have zc1 : (1 : Int32).toInt = 1 := by decide
      refine mt_180_0 hJ hov1 hov2 (d := 97) (x1 := 0) (x2 := a5) (x3 := 1) K.1 (by first | omega | decide) (by first | omega | decide) (fun r61 hh62 br61 K63 => ?_)
      have K64 := xk_tr K K63 rfl
      obtain ⟨u65, u66, bu65, bu66, A67⟩ := xq_0 K64.1
      have e68 : u59 = u66 := xk_eqi (q := 9) K63 rfl A60 A67 rfl rfl
      subst e68
      show xw J ov 100 195 (1371, [(4, .int x4), (3, .ref 167), (2, .ref 115), (1, .ref 0), (0, .ref 1000000)], [.int r61], hh62) _
      refine xi_pop (pc' := 1372) kc_195_1371 rfl rfl ?_
      refine xi_aload_n (pc' := 1373) (x := 115) kc_195_1372 rfl rfl ?_
      refine xi_aload_n (pc' := 1374) (x := 1000000) kc_195_1373 rfl rfl ?_
      refine xi_iload (pc' := 1376) (x := x4) kc_195_1374 rfl rfl ?_
      refine xi_iconst (pc' := 1377) (v := 1) kc_195_1376 rfl rfl ?_
      refine xi_iadd (pc' := 1378) (v := v1) kc_195_1377 rfl ev1 ?_
      refine xi_ialoadO (pc' := 1379) (v := a2) kc_195_1378 rfl (by decide) hov0 (xi_in (by omega) (by omega)) ea2 ?_
      refine xi_ift (pc' := 1386) kc_195_1379 rfl (xc_eq_t (X := a2.toInt) (Y := 0) rfl (by decide) (by omega)) ?_
      refine xi_iconst (pc' := 1387) (v := 0) kc_195_1386 rfl rfl ?_
      refine xi_aload_n (pc' := 1388) (x := 1000000) kc_195_1387 rfl rfl ?_
      refine xi_iload (pc' := 1390) (x := x4) kc_195_1388 rfl rfl ?_
      refine xi_iconst (pc' := 1391) (v := 2) kc_195_1390 rfl rfl ?_
      refine xi_iadd (pc' := 1392) (v := v4) kc_195_1391 rfl ev4 ?_
      refine xi_ialoadO (pc' := 1393) (v := a5) kc_195_1392 rfl (by decide) hov0 (xi_in (by omega) (by omega)) ea5 ?_
      refine xi_aload_n (pc' := 1394) (x := 1000000) kc_195_1393 rfl rfl ?_
      refine xi_iload (pc' := 1396) (x := x4) kc_195_1394 rfl rfl ?_
      refine xi_iconst (pc' := 1397) (v := 3) kc_195_1396 rfl rfl ?_
      refine xi_iadd (pc' := 1398) (v := v6) kc_195_1397 rfl ev6 ?_
      refine xi_ialoadO (pc' := 1399) (v := a7) kc_195_1398 rfl (by decide) hov0 (xi_in (by omega) (by omega)) ea7 ?_
      refine xi_iff (pc' := 1402) kc_195_1399 rfl (xc_eq_f (X := a7.toInt) (Y := 0) rfl (by decide) (by omega)) ?_
      refine xi_iconst (pc' := 1403) (v := 1) kc_195_1402 rfl rfl ?_
      refine xi_goto (pc' := 1407) kc_195_1403 rfl ?_
      obtain ⟨u69, u70, u71, u72, u73, u74, u75, u76, u77, u78, u79, u80, u81, bu69, bu70, bu71, bu72, bu73, bu74, bu75, bu76, bu77, bu78, bu79, bu80, bu81, A82⟩ := xq_115 K64.1
      refine xi_virtual (mj := 72) (as := [.int 0, .int a5, .int 1]) (st1 := []) (lv0 := [(0, .ref 115), (1, .int 0), (2, .int a5), (3, .int 1)]) kc_195_1407 rfl rfl rfl rfl rfl A82 (Nat.le_of_ble_eq_true rfl) (hJ _ _ _ _ (by decide)) (xm_le ml_72 rfl) rfl ?_
      have zc0 : (0 : Int32).toInt = 0 := by decide
      have zc1 : (1 : Int32).toInt = 1 := by decide
      refine mt_72_0 hJ hov1 hov2 (d := 98) (x1 := 0) (x2 := a5) (x3 := 1) K64.1 (by first | omega | decide) (by first | omega | decide) (fun r83 hh84 br83 K85 => ?_)
      have K86 := xk_tr K64 K85 rfl
      obtain ⟨u87, u88, bu87, bu88, A89⟩ := xq_0 K86.1
      have e90 : u59 = u88 := xk_eqi (q := 9) K85 rfl A67 A89 rfl rfl
      subst e90
      obtain ⟨u91, u92, u93, u94, u95, u96, u97, u98, u99, u100, u101, u102, u103, bu91, bu92, bu93, bu94, bu95, bu96, bu97, bu98, bu99, bu100, bu101, bu102, bu103, A104⟩ := xq_115 K86.1
      have e105 : u70 = u92 := xk_eqi (q := 1) K85 rfl A82 A104 rfl rfl
      subst e105
      show xw J ov 100 195 (1410, [(4, .int x4), (3, .ref 167), (2, .ref 115), (1, .ref 0), (0, .ref 1000000)], [.int r83], hh84) _
      refine xi_pop (pc' := 1411) kc_195_1410 rfl rfl ?_
      refine xi_goto (pc' := 1501) kc_195_1411 rfl ?_
      obtain ⟨v106, ev106⟩ : ∃ q : Int32, x4 + 6 = q := ⟨_, rfl⟩
      have zv106 : v106.toInt = (x4.toInt + 6) := by rw [← ev106]; exact (xz_add (X := x4.toInt) (Y := 6) rfl (by decide) (by omega) (by omega)).trans (by omega)
      refine xi_iinc (pc' := 1504) (x := x4) (v := v106) (lv' := [(4, .int v106), (3, .ref 167), (2, .ref 115), (1, .ref 0), (0, .ref 1000000)]) kc_195_1501 rfl rfl ev106 rfl (xm_lt ml_195 rfl) ?_
      refine xi_goto (pc' := 23) kc_195_1504 rfl ?_
      exact kk v106 hh84 (by omega) K86
  · refine xi_iff (pc' := 1343) kc_195_1340 rfl (xc_eq_f (X := a2.toInt) (Y := 0) rfl (by decide) (by omega)) ?_
    refine xi_iconst (pc' := 1344) (v := 1) kc_195_1343 rfl rfl ?_
    refine xi_goto (pc' := 1348) kc_195_1344 rfl ?_
    refine xi_aload_n (pc' := 1349) (x := 1000000) kc_195_1348 rfl rfl ?_
    refine xi_iload (pc' := 1351) (x := x4) kc_195_1349 rfl rfl ?_
    refine xi_iconst (pc' := 1352) (v := 2) kc_195_1351 rfl rfl ?_
    obtain ⟨v107, ev107⟩ : ∃ q : Int32, x4 + 2 = q := ⟨_, rfl⟩
    have zv107 : v107.toInt = (x4.toInt + 2) := by rw [← ev107]; exact (xz_add (X := x4.toInt) (Y := 2) rfl (by decide) (by omega) (by omega)).trans (by omega)
    refine xi_iadd (pc' := 1353) (v := v107) kc_195_1352 rfl ev107 ?_
    obtain ⟨a108, ea108⟩ : ∃ q : Int32, xs.getD (Int32.toNatClampNeg v107) 0 = q := ⟨_, rfl⟩
    have ra108 := xc_rng a108
    refine xi_ialoadO (pc' := 1354) (v := a108) kc_195_1353 rfl (by decide) hov0 (xi_in (by omega) (by omega)) ea108 ?_
    refine xi_aload_n (pc' := 1355) (x := 1000000) kc_195_1354 rfl rfl ?_
    refine xi_iload (pc' := 1357) (x := x4) kc_195_1355 rfl rfl ?_
    refine xi_iconst (pc' := 1358) (v := 3) kc_195_1357 rfl rfl ?_
    obtain ⟨v109, ev109⟩ : ∃ q : Int32, x4 + 3 = q := ⟨_, rfl⟩
    have zv109 : v109.toInt = (x4.toInt + 3) := by rw [← ev109]; exact (xz_add (X := x4.toInt) (Y := 3) rfl (by decide) (by omega) (by omega)).trans (by omega)
    refine xi_iadd (pc' := 1359) (v := v109) kc_195_1358 rfl ev109 ?_
    obtain ⟨a110, ea110⟩ : ∃ q : Int32, xs.getD (Int32.toNatClampNeg v109) 0 = q := ⟨_, rfl⟩
    have ra110 := xc_rng a110
    refine xi_ialoadO (pc' := 1360) (v := a110) kc_195_1359 rfl (by decide) hov0 (xi_in (by omega) (by omega)) ea110 ?_
    by_cases c111 : a110.toInt = 0
    · refine xi_ift (pc' := 1367) kc_195_1360 rfl (xc_eq_t (X := a110.toInt) (Y := 0) rfl (by decide) (by omega)) ?_
      refine xi_iconst (pc' := 1368) (v := 0) kc_195_1367 rfl rfl ?_
      obtain ⟨u112, u113, bu112, bu113, A114⟩ := xq_0 K.1
      refine xi_virtual (mj := 180) (as := [.int 1, .int a108, .int 0]) (st1 := []) (lv0 := [(0, .ref 0), (1, .int 1), (2, .int a108), (3, .int 0)]) kc_195_1368 rfl rfl rfl rfl rfl A114 (Nat.le_of_ble_eq_true rfl) (hJ _ _ _ _ (by decide)) (xm_le ml_180 rfl) rfl ?_
      have zc0 : (0 : Int32).toInt = 0 := by decide
      have zc1 : (1 : Int32).toInt = 1 := by decide
      refine mt_180_0 hJ hov1 hov2 (d := 97) (x1 := 1) (x2 := a108) (x3 := 0) K.1 (by first | omega | decide) (by first | omega | decide) (fun r115 hh116 br115 K117 => ?_)
      have K118 := xk_tr K K117 rfl
      obtain ⟨u119, u120, bu119, bu120, A121⟩ := xq_0 K118.1
      have e122 : u113 = u120 := xk_eqi (q := 9) K117 rfl A114 A121 rfl rfl
      subst e122
      show xw J ov 100 195 (1371, [(4, .int x4), (3, .ref 167), (2, .ref 115), (1, .ref 0), (0, .ref 1000000)], [.int r115], hh116) _
      refine xi_pop (pc' := 1372) kc_195_1371 rfl rfl ?_
      refine xi_aload_n (pc' := 1373) (x := 115) kc_195_1372 rfl rfl ?_
      refine xi_aload_n (pc' := 1374) (x := 1000000) kc_195_1373 rfl rfl ?_
      refine xi_iload (pc' := 1376) (x := x4) kc_195_1374 rfl rfl ?_
      refine xi_iconst (pc' := 1377) (v := 1) kc_195_1376 rfl rfl ?_
      refine xi_iadd (pc' := 1378) (v := v1) kc_195_1377 rfl ev1 ?_
      refine xi_ialoadO (pc' := 1379) (v := a2) kc_195_1378 rfl (by decide) hov0 (xi_in (by omega) (by omega)) ea2 ?_
      refine xi_iff (pc' := 1382) kc_195_1379 rfl (xc_eq_f (X := a2.toInt) (Y := 0) rfl (by decide) (by omega)) ?_
      refine xi_iconst (pc' := 1383) (v := 1) kc_195_1382 rfl rfl ?_
      refine xi_goto (pc' := 1387) kc_195_1383 rfl ?_
      refine xi_aload_n (pc' := 1388) (x := 1000000) kc_195_1387 rfl rfl ?_
      refine xi_iload (pc' := 1390) (x := x4) kc_195_1388 rfl rfl ?_
      refine xi_iconst (pc' := 1391) (v := 2) kc_195_1390 rfl rfl ?_
      refine xi_iadd (pc' := 1392) (v := v107) kc_195_1391 rfl ev107 ?_
      refine xi_ialoadO (pc' := 1393) (v := a108) kc_195_1392 rfl (by decide) hov0 (xi_in (by omega) (by omega)) ea108 ?_
      refine xi_aload_n (pc' := 1394) (x := 1000000) kc_195_1393 rfl rfl ?_
      refine xi_iload (pc' := 1396) (x := x4) kc_195_1394 rfl rfl ?_
      refine xi_iconst (pc' := 1397) (v := 3) kc_195_1396 rfl rfl ?_
      refine xi_iadd (pc' := 1398) (v := v109) kc_195_1397 rfl ev109 ?_
      refine xi_ialoadO (pc' := 1399) (v := a110) kc_195_1398 rfl (by decide) hov0 (xi_in (by omega) (by omega)) ea110 ?_
      refine xi_ift (pc' := 1406) kc_195_1399 rfl (xc_eq_t (X := a110.toInt) (Y := 0) rfl (by decide) (by omega)) ?_
      refine xi_iconst (pc' := 1407) (v := 0) kc_195_1406 rfl rfl ?_
      obtain ⟨u123, u124, u125, u126, u127, u128, u129, u130, u131, u132, u133, u134, u135, bu123, bu124, bu125, bu126, bu127, bu128, bu129, bu130, bu131, bu132, bu133, bu134, bu135, A136⟩ := xq_115 K118.1
      refine xi_virtual (mj := 72) (as := [.int 1, .int a108, .int 0]) (st1 := []) (lv0 := [(0, .ref 115), (1, .int 1), (2, .int a108), (3, .int 0)]) kc_195_1407 rfl rfl rfl rfl rfl A136 (Nat.le_of_ble_eq_true rfl) (hJ _ _ _ _ (by decide)) (xm_le ml_72 rfl) rfl ?_
      have zc0 : (0 : Int32).toInt = 0 := by decide
      have zc1 : (1 : Int32).toInt = 1 := by decide
      refine mt_72_0 hJ hov1 hov2 (d := 98) (x1 := 1) (x2 := a108) (x3 := 0) K118.1 (by first | omega | decide) (by first | omega | decide) (fun r137 hh138 br137 K139 => ?_)
      have K140 := xk_tr K118 K139 rfl
      obtain ⟨u141, u142, bu141, bu142, A143⟩ := xq_0 K140.1
      have e144 : u113 = u142 := xk_eqi (q := 9) K139 rfl A121 A143 rfl rfl
      subst e144
      obtain ⟨u145, u146, u147, u148, u149, u150, u151, u152, u153, u154, u155, u156, u157, bu145, bu146, bu147, bu148, bu149, bu150, bu151, bu152, bu153, bu154, bu155, bu156, bu157, A158⟩ := xq_115 K140.1
      have e159 : u124 = u146 := xk_eqi (q := 1) K139 rfl A136 A158 rfl rfl
      subst e159
      show xw J ov 100 195 (1410, [(4, .int x4), (3, .ref 167), (2, .ref 115), (1, .ref 0), (0, .ref 1000000)], [.int r137], hh138) _
      refine xi_pop (pc' := 1411) kc_195_1410 rfl rfl ?_
      refine xi_goto (pc' := 1501) kc_195_1411 rfl ?_
      obtain ⟨v160, ev160⟩ : ∃ q : Int32, x4 + 6 = q := ⟨_, rfl⟩
      have zv160 : v160.toInt = (x4.toInt + 6) := by rw [← ev160]; exact (xz_add (X := x4.toInt) (Y := 6) rfl (by decide) (by omega) (by omega)).trans (by omega)
      refine xi_iinc (pc' := 1504) (x := x4) (v := v160) (lv' := [(4, .int v160), (3, .ref 167), (2, .ref 115), (1, .ref 0), (0, .ref 1000000)]) kc_195_1501 rfl rfl ev160 rfl (xm_lt ml_195 rfl) ?_
      refine xi_goto (pc' := 23) kc_195_1504 rfl ?_
      exact kk v160 hh138 (by omega) K140
    · refine xi_iff (pc' := 1363) kc_195_1360 rfl (xc_eq_f (X := a110.toInt) (Y := 0) rfl (by decide) (by omega)) ?_
      refine xi_iconst (pc' := 1364) (v := 1) kc_195_1363 rfl rfl ?_
      refine xi_goto (pc' := 1368) kc_195_1364 rfl ?_
      obtain ⟨u161, u162, bu161, bu162, A163⟩ := xq_0 K.1
      refine xi_virtual (mj := 180) (as := [.int 1, .int a108, .int 1]) (st1 := []) (lv0 := [(0, .ref 0), (1, .int 1), (2, .int a108), (3, .int 1)]) kc_195_1368 rfl rfl rfl rfl rfl A163 (Nat.le_of_ble_eq_true rfl) (hJ _ _ _ _ (by decide)) (xm_le ml_180 rfl) rfl ?_
      have zc1 : (1 : Int32).toInt = 1 := by decide
      refine mt_180_0 hJ hov1 hov2 (d := 97) (x1 := 1) (x2 := a108) (x3 := 1) K.1 (by first | omega | decide) (by first | omega | decide) (fun r164 hh165 br164 K166 => ?_)
      have K167 := xk_tr K K166 rfl
      obtain ⟨u168, u169, bu168, bu169, A170⟩ := xq_0 K167.1
      have e171 : u162 = u169 := xk_eqi (q := 9) K166 rfl A163 A170 rfl rfl
      subst e171
      show xw J ov 100 195 (1371, [(4, .int x4), (3, .ref 167), (2, .ref 115), (1, .ref 0), (0, .ref 1000000)], [.int r164], hh165) _
      refine xi_pop (pc' := 1372) kc_195_1371 rfl rfl ?_
      refine xi_aload_n (pc' := 1373) (x := 115) kc_195_1372 rfl rfl ?_
      refine xi_aload_n (pc' := 1374) (x := 1000000) kc_195_1373 rfl rfl ?_
      refine xi_iload (pc' := 1376) (x := x4) kc_195_1374 rfl rfl ?_
      refine xi_iconst (pc' := 1377) (v := 1) kc_195_1376 rfl rfl ?_
      refine xi_iadd (pc' := 1378) (v := v1) kc_195_1377 rfl ev1 ?_
      refine xi_ialoadO (pc' := 1379) (v := a2) kc_195_1378 rfl (by decide) hov0 (xi_in (by omega) (by omega)) ea2 ?_
      refine xi_iff (pc' := 1382) kc_195_1379 rfl (xc_eq_f (X := a2.toInt) (Y := 0) rfl (by decide) (by omega)) ?_
      refine xi_iconst (pc' := 1383) (v := 1) kc_195_1382 rfl rfl ?_
      refine xi_goto (pc' := 1387) kc_195_1383 rfl ?_
      refine xi_aload_n (pc' := 1388) (x := 1000000) kc_195_1387 rfl rfl ?_
      refine xi_iload (pc' := 1390) (x := x4) kc_195_1388 rfl rfl ?_
      refine xi_iconst (pc' := 1391) (v := 2) kc_195_1390 rfl rfl ?_
      refine xi_iadd (pc' := 1392) (v := v107) kc_195_1391 rfl ev107 ?_
      refine xi_ialoadO (pc' := 1393) (v := a108) kc_195_1392 rfl (by decide) hov0 (xi_in (by omega) (by omega)) ea108 ?_
      refine xi_aload_n (pc' := 1394) (x := 1000000) kc_195_1393 rfl rfl ?_
      refine xi_iload (pc' := 1396) (x := x4) kc_195_1394 rfl rfl ?_
      refine xi_iconst (pc' := 1397) (v := 3) kc_195_1396 rfl rfl ?_
      refine xi_iadd (pc' := 1398) (v := v109) kc_195_1397 rfl ev109 ?_
      refine xi_ialoadO (pc' := 1399) (v := a110) kc_195_1398 rfl (by decide) hov0 (xi_in (by omega) (by omega)) ea110 ?_
      refine xi_iff (pc' := 1402) kc_195_1399 rfl (xc_eq_f (X := a110.toInt) (Y := 0) rfl (by decide) (by omega)) ?_
      refine xi_iconst (pc' := 1403) (v := 1) kc_195_1402 rfl rfl ?_
      refine xi_goto (pc' := 1407) kc_195_1403 rfl ?_
      obtain ⟨u172, u173, u174, u175, u176, u177, u178, u179, u180, u181, u182, u183, u184, bu172, bu173, bu174, bu175, bu176, bu177, bu178, bu179, bu180, bu181, bu182, bu183, bu184, A185⟩ := xq_115 K167.1
      refine xi_virtual (mj := 72) (as := [.int 1, .int a108, .int 1]) (st1 := []) (lv0 := [(0, .ref 115), (1, .int 1), (2, .int a108), (3, .int 1)]) kc_195_1407 rfl rfl rfl rfl rfl A185 (Nat.le_of_ble_eq_true rfl) (hJ _ _ _ _ (by decide)) (xm_le ml_72 rfl) rfl ?_
      have zc1 : (1 : Int32).toInt = 1 := by decide
      refine mt_72_0 hJ hov1 hov2 (d := 98) (x1 := 1) (x2 := a108) (x3 := 1) K167.1 (by first | omega | decide) (by first | omega | decide) (fun r186 hh187 br186 K188 => ?_)
      have K189 := xk_tr K167 K188 rfl
      obtain ⟨u190, u191, bu190, bu191, A192⟩ := xq_0 K189.1
      have e193 : u162 = u191 := xk_eqi (q := 9) K188 rfl A170 A192 rfl rfl
      subst e193
      obtain ⟨u194, u195, u196, u197, u198, u199, u200, u201, u202, u203, u204, u205, u206, bu194, bu195, bu196, bu197, bu198, bu199, bu200, bu201, bu202, bu203, bu204, bu205, bu206, A207⟩ := xq_115 K189.1
      have e208 : u173 = u195 := xk_eqi (q := 1) K188 rfl A185 A207 rfl rfl
      subst e208
      show xw J ov 100 195 (1410, [(4, .int x4), (3, .ref 167), (2, .ref 115), (1, .ref 0), (0, .ref 1000000)], [.int r186], hh187) _
      refine xi_pop (pc' := 1411) kc_195_1410 rfl rfl ?_
      refine xi_goto (pc' := 1501) kc_195_1411 rfl ?_
      obtain ⟨v209, ev209⟩ : ∃ q : Int32, x4 + 6 = q := ⟨_, rfl⟩
      have zv209 : v209.toInt = (x4.toInt + 6) := by rw [← ev209]; exact (xz_add (X := x4.toInt) (Y := 6) rfl (by decide) (by omega) (by omega)).trans (by omega)
      refine xi_iinc (pc' := 1504) (x := x4) (v := v209) (lv' := [(4, .int v209), (3, .ref 167), (2, .ref 115), (1, .ref 0), (0, .ref 1000000)]) kc_195_1501 rfl rfl ev209 rfl (xm_lt ml_195 rfl) ?_
      refine xi_goto (pc' := 23) kc_195_1504 rfl ?_
      exact kk v209 hh187 (by omega) K189
set_option maxHeartbeats 8000000 in
theorem lc_31 {J : xe_J} {ov : List (List Int32)} (hJ : ∀ d mj as h, mj ≠ xe_loff → J d mj as h = none) (hov1 : ov[1]? = some [10, 0, 0, 0, 0, 0]) (hov2 : ov[2]? = some [99, 30, 50, 50, 1, 99999]) {xs : List Int32} (hov0 : ov[0]? = some xs) {Q : Option Value → xe_H → Prop} {h : xe_H} {x4 : Int32} (hi0 : 0 ≤ x4.toInt) (hi1 : x4.toInt + 6 ≤ xs.length) (hi2 : x4.toInt ≤ 3066) (T : xt h) (kk : ∀ (i : Int32) (h' : xe_H), i.toInt = x4.toInt + 6 → xk [(6, 0), (123, 0), (9, 0), (124, 0), (7, 0), (10, 0), (5, 0), (8, 0)] h h' → xw J ov 100 195 (23, [(4, .int i), (3, .ref 167), (2, .ref 115), (1, .ref 0), (0, .ref 1000000)], [], h') Q) : xw J ov 100 195 (1414, [(4, .int x4), (3, .ref 167), (2, .ref 115), (1, .ref 0), (0, .ref 1000000)], [], h) Q := by
  have K : xk [(6, 0), (123, 0), (9, 0), (124, 0), (7, 0), (10, 0), (5, 0), (8, 0)] h h := xk_re T
  refine xi_aload_n (pc' := 1415) (x := 0) kc_195_1414 rfl rfl ?_
  refine xi_aload_n (pc' := 1416) (x := 1000000) kc_195_1415 rfl rfl ?_
  refine xi_iload (pc' := 1418) (x := x4) kc_195_1416 rfl rfl ?_
  refine xi_iconst (pc' := 1419) (v := 1) kc_195_1418 rfl rfl ?_
  obtain ⟨v1, ev1⟩ : ∃ q : Int32, x4 + 1 = q := ⟨_, rfl⟩
  have zv1 : v1.toInt = (x4.toInt + 1) := by rw [← ev1]; exact (xz_add (X := x4.toInt) (Y := 1) rfl (by decide) (by omega) (by omega)).trans (by omega)
  refine xi_iadd (pc' := 1420) (v := v1) kc_195_1419 rfl ev1 ?_
  obtain ⟨a2, ea2⟩ : ∃ q : Int32, xs.getD (Int32.toNatClampNeg v1) 0 = q := ⟨_, rfl⟩
  have ra2 := xc_rng a2
  refine xi_ialoadO (pc' := 1421) (v := a2) kc_195_1420 rfl (by decide) hov0 (xi_in (by omega) (by omega)) ea2 ?_
  refine xi_aload_n (pc' := 1422) (x := 1000000) kc_195_1421 rfl rfl ?_
  refine xi_iload (pc' := 1424) (x := x4) kc_195_1422 rfl rfl ?_
  refine xi_iconst (pc' := 1425) (v := 2) kc_195_1424 rfl rfl ?_
  obtain ⟨v3, ev3⟩ : ∃ q : Int32, x4 + 2 = q := ⟨_, rfl⟩
  have zv3 : v3.toInt = (x4.toInt + 2) := by rw [← ev3]; exact (xz_add (X := x4.toInt) (Y := 2) rfl (by decide) (by omega) (by omega)).trans (by omega)
  refine xi_iadd (pc' := 1426) (v := v3) kc_195_1425 rfl ev3 ?_
  obtain ⟨a4, ea4⟩ : ∃ q : Int32, xs.getD (Int32.toNatClampNeg v3) 0 = q := ⟨_, rfl⟩
  have ra4 := xc_rng a4
  refine xi_ialoadO (pc' := 1427) (v := a4) kc_195_1426 rfl (by decide) hov0 (xi_in (by omega) (by omega)) ea4 ?_
  obtain ⟨u5, u6, bu5, bu6, A7⟩ := xq_0 K.1
  refine xi_virtual (mj := 182) (as := [.int a2, .int a4]) (st1 := []) (lv0 := [(0, .ref 0), (1, .int a2), (2, .int a4)]) kc_195_1427 rfl rfl rfl rfl rfl A7 (Nat.le_of_ble_eq_true rfl) (hJ _ _ _ _ (by decide)) (xm_le ml_182 rfl) rfl ?_
  refine mt_182_0 hJ hov1 hov2 (d := 92) (x1 := a2) (x2 := a4) K.1 (fun r8 hh9 K10 => ?_)
  have br8 := xc_rng r8
  have K11 := xk_tr K K10 rfl
  obtain ⟨u12, u13, bu12, bu13, A14⟩ := xq_0 K11.1
  have e15 : u6 = u13 := xk_eqi (q := 9) K10 rfl A7 A14 rfl rfl
  subst e15
  show xw J ov 100 195 (1430, [(4, .int x4), (3, .ref 167), (2, .ref 115), (1, .ref 0), (0, .ref 1000000)], [.int r8], hh9) _
  refine xi_pop (pc' := 1431) kc_195_1430 rfl rfl ?_
  refine xi_aload_n (pc' := 1432) (x := 115) kc_195_1431 rfl rfl ?_
  refine xi_aload_n (pc' := 1433) (x := 1000000) kc_195_1432 rfl rfl ?_
  refine xi_iload (pc' := 1435) (x := x4) kc_195_1433 rfl rfl ?_
  refine xi_iconst (pc' := 1436) (v := 1) kc_195_1435 rfl rfl ?_
  refine xi_iadd (pc' := 1437) (v := v1) kc_195_1436 rfl ev1 ?_
  refine xi_ialoadO (pc' := 1438) (v := a2) kc_195_1437 rfl (by decide) hov0 (xi_in (by omega) (by omega)) ea2 ?_
  refine xi_aload_n (pc' := 1439) (x := 1000000) kc_195_1438 rfl rfl ?_
  refine xi_iload (pc' := 1441) (x := x4) kc_195_1439 rfl rfl ?_
  refine xi_iconst (pc' := 1442) (v := 2) kc_195_1441 rfl rfl ?_
  refine xi_iadd (pc' := 1443) (v := v3) kc_195_1442 rfl ev3 ?_
  refine xi_ialoadO (pc' := 1444) (v := a4) kc_195_1443 rfl (by decide) hov0 (xi_in (by omega) (by omega)) ea4 ?_
  obtain ⟨u16, u17, u18, u19, u20, u21, u22, u23, u24, u25, u26, u27, u28, bu16, bu17, bu18, bu19, bu20, bu21, bu22, bu23, bu24, bu25, bu26, bu27, bu28, A29⟩ := xq_115 K11.1
  refine xi_virtual (mj := 73) (as := [.int a2, .int a4]) (st1 := []) (lv0 := [(0, .ref 115), (1, .int a2), (2, .int a4)]) kc_195_1444 rfl rfl rfl rfl rfl A29 (Nat.le_of_ble_eq_true rfl) (hJ _ _ _ _ (by decide)) (xm_le ml_73 rfl) rfl ?_
  refine mt_73_0 hJ hov1 hov2 (d := 91) (x1 := a2) (x2 := a4) K11.1 (fun r30 hh31 K32 => ?_)
  have br30 := xc_rng r30
  have K33 := xk_tr K11 K32 rfl
  obtain ⟨u34, u35, bu34, bu35, A36⟩ := xq_0 K33.1
  have e37 : u6 = u35 := xk_eqi (q := 9) K32 rfl A14 A36 rfl rfl
  subst e37
  obtain ⟨u38, u39, u40, u41, u42, u43, u44, u45, u46, u47, u48, u49, u50, bu38, bu39, bu40, bu41, bu42, bu43, bu44, bu45, bu46, bu47, bu48, bu49, bu50, A51⟩ := xq_115 K33.1
  have e52 : u17 = u39 := xk_eqi (q := 1) K32 rfl A29 A51 rfl rfl
  subst e52
  show xw J ov 100 195 (1447, [(4, .int x4), (3, .ref 167), (2, .ref 115), (1, .ref 0), (0, .ref 1000000)], [.int r30], hh31) _
  refine xi_pop (pc' := 1448) kc_195_1447 rfl rfl ?_
  refine xi_goto (pc' := 1501) kc_195_1448 rfl ?_
  obtain ⟨v53, ev53⟩ : ∃ q : Int32, x4 + 6 = q := ⟨_, rfl⟩
  have zv53 : v53.toInt = (x4.toInt + 6) := by rw [← ev53]; exact (xz_add (X := x4.toInt) (Y := 6) rfl (by decide) (by omega) (by omega)).trans (by omega)
  refine xi_iinc (pc' := 1504) (x := x4) (v := v53) (lv' := [(4, .int v53), (3, .ref 167), (2, .ref 115), (1, .ref 0), (0, .ref 1000000)]) kc_195_1501 rfl rfl ev53 rfl (xm_lt ml_195 rfl) ?_
  refine xi_goto (pc' := 23) kc_195_1504 rfl ?_
  exact kk v53 hh31 (by omega) K33
set_option maxHeartbeats 8000000 in
theorem lc_32 {J : xe_J} {ov : List (List Int32)} (hJ : ∀ d mj as h, mj ≠ xe_loff → J d mj as h = none) (hov1 : ov[1]? = some [10, 0, 0, 0, 0, 0]) (hov2 : ov[2]? = some [99, 30, 50, 50, 1, 99999]) {xs : List Int32} (hov0 : ov[0]? = some xs) {Q : Option Value → xe_H → Prop} {h : xe_H} {x4 : Int32} (hi0 : 0 ≤ x4.toInt) (hi1 : x4.toInt + 6 ≤ xs.length) (hi2 : x4.toInt ≤ 3066) (T : xt h) (kk : ∀ (i : Int32) (h' : xe_H), i.toInt = x4.toInt + 6 → xk [(6, 0), (123, 0), (9, 0), (124, 0), (7, 0), (10, 0), (5, 0), (8, 0)] h h' → xw J ov 100 195 (23, [(4, .int i), (3, .ref 167), (2, .ref 115), (1, .ref 0), (0, .ref 1000000)], [], h') Q) : xw J ov 100 195 (1451, [(4, .int x4), (3, .ref 167), (2, .ref 115), (1, .ref 0), (0, .ref 1000000)], [], h) Q := by
  have K : xk [(6, 0), (123, 0), (9, 0), (124, 0), (7, 0), (10, 0), (5, 0), (8, 0)] h h := xk_re T
  refine xi_aload_n (pc' := 1452) (x := 0) kc_195_1451 rfl rfl ?_
  refine xi_aload_n (pc' := 1453) (x := 1000000) kc_195_1452 rfl rfl ?_
  refine xi_iload (pc' := 1455) (x := x4) kc_195_1453 rfl rfl ?_
  refine xi_iconst (pc' := 1456) (v := 1) kc_195_1455 rfl rfl ?_
  obtain ⟨v1, ev1⟩ : ∃ q : Int32, x4 + 1 = q := ⟨_, rfl⟩
  have zv1 : v1.toInt = (x4.toInt + 1) := by rw [← ev1]; exact (xz_add (X := x4.toInt) (Y := 1) rfl (by decide) (by omega) (by omega)).trans (by omega)
  refine xi_iadd (pc' := 1457) (v := v1) kc_195_1456 rfl ev1 ?_
  obtain ⟨a2, ea2⟩ : ∃ q : Int32, xs.getD (Int32.toNatClampNeg v1) 0 = q := ⟨_, rfl⟩
  have ra2 := xc_rng a2
  refine xi_ialoadO (pc' := 1458) (v := a2) kc_195_1457 rfl (by decide) hov0 (xi_in (by omega) (by omega)) ea2 ?_
  obtain ⟨u3, u4, bu3, bu4, A5⟩ := xq_0 K.1
  refine xi_virtual (mj := 188) (as := [.int a2]) (st1 := []) (lv0 := [(0, .ref 0), (1, .int a2)]) kc_195_1458 rfl rfl rfl rfl rfl A5 (Nat.le_of_ble_eq_true rfl) (hJ _ _ _ _ (by decide)) (xm_le ml_188 rfl) rfl ?_
  refine mt_188_0 hJ hov1 hov2 (d := 97) (x1 := a2) K.1 (fun r6 hh7 br6 K8 => ?_)
  have K9 := xk_tr K K8 rfl
  obtain ⟨u10, u11, bu10, bu11, A12⟩ := xq_0 K9.1
  have e13 : u4 = u11 := xk_eqi (q := 9) K8 rfl A5 A12 rfl rfl
  subst e13
  show xw J ov 100 195 (1461, [(4, .int x4), (3, .ref 167), (2, .ref 115), (1, .ref 0), (0, .ref 1000000)], [.int r6], hh7) _
  refine xi_pop (pc' := 1462) kc_195_1461 rfl rfl ?_
  refine xi_aload_n (pc' := 1463) (x := 115) kc_195_1462 rfl rfl ?_
  refine xi_aload_n (pc' := 1464) (x := 1000000) kc_195_1463 rfl rfl ?_
  refine xi_iload (pc' := 1466) (x := x4) kc_195_1464 rfl rfl ?_
  refine xi_iconst (pc' := 1467) (v := 1) kc_195_1466 rfl rfl ?_
  refine xi_iadd (pc' := 1468) (v := v1) kc_195_1467 rfl ev1 ?_
  refine xi_ialoadO (pc' := 1469) (v := a2) kc_195_1468 rfl (by decide) hov0 (xi_in (by omega) (by omega)) ea2 ?_
  obtain ⟨u14, u15, u16, u17, u18, u19, u20, u21, u22, u23, u24, u25, u26, bu14, bu15, bu16, bu17, bu18, bu19, bu20, bu21, bu22, bu23, bu24, bu25, bu26, A27⟩ := xq_115 K9.1
  refine xi_virtual (mj := 74) (as := [.int a2]) (st1 := []) (lv0 := [(0, .ref 115), (1, .int a2)]) kc_195_1469 rfl rfl rfl rfl rfl A27 (Nat.le_of_ble_eq_true rfl) (hJ _ _ _ _ (by decide)) (xm_le ml_74 rfl) rfl ?_
  refine mt_74_0 hJ hov1 hov2 (d := 98) (x1 := a2) K9.1 (fun r28 hh29 br28 K30 => ?_)
  have K31 := xk_tr K9 K30 rfl
  obtain ⟨u32, u33, bu32, bu33, A34⟩ := xq_0 K31.1
  have e35 : u4 = u33 := xk_eqi (q := 9) K30 rfl A12 A34 rfl rfl
  subst e35
  obtain ⟨u36, u37, u38, u39, u40, u41, u42, u43, u44, u45, u46, u47, u48, bu36, bu37, bu38, bu39, bu40, bu41, bu42, bu43, bu44, bu45, bu46, bu47, bu48, A49⟩ := xq_115 K31.1
  have e50 : u15 = u37 := xk_eqi (q := 1) K30 rfl A27 A49 rfl rfl
  subst e50
  show xw J ov 100 195 (1472, [(4, .int x4), (3, .ref 167), (2, .ref 115), (1, .ref 0), (0, .ref 1000000)], [.int r28], hh29) _
  refine xi_pop (pc' := 1473) kc_195_1472 rfl rfl ?_
  refine xi_goto (pc' := 1501) kc_195_1473 rfl ?_
  obtain ⟨v51, ev51⟩ : ∃ q : Int32, x4 + 6 = q := ⟨_, rfl⟩
  have zv51 : v51.toInt = (x4.toInt + 6) := by rw [← ev51]; exact (xz_add (X := x4.toInt) (Y := 6) rfl (by decide) (by omega) (by omega)).trans (by omega)
  refine xi_iinc (pc' := 1504) (x := x4) (v := v51) (lv' := [(4, .int v51), (3, .ref 167), (2, .ref 115), (1, .ref 0), (0, .ref 1000000)]) kc_195_1501 rfl rfl ev51 rfl (xm_lt ml_195 rfl) ?_
  refine xi_goto (pc' := 23) kc_195_1504 rfl ?_
  exact kk v51 hh29 (by omega) K31
set_option maxHeartbeats 8000000 in
theorem lc_33 {J : xe_J} {ov : List (List Int32)} (hJ : ∀ d mj as h, mj ≠ xe_loff → J d mj as h = none) (hov1 : ov[1]? = some [10, 0, 0, 0, 0, 0]) (hov2 : ov[2]? = some [99, 30, 50, 50, 1, 99999]) {xs : List Int32} (hov0 : ov[0]? = some xs) {Q : Option Value → xe_H → Prop} {h : xe_H} {x4 : Int32} (hi0 : 0 ≤ x4.toInt) (hi1 : x4.toInt + 6 ≤ xs.length) (hi2 : x4.toInt ≤ 3066) (T : xt h) (kk : ∀ (i : Int32) (h' : xe_H), i.toInt = x4.toInt + 6 → xk [(6, 0), (123, 0), (9, 0), (124, 0), (7, 0), (10, 0), (5, 0), (8, 0)] h h' → xw J ov 100 195 (23, [(4, .int i), (3, .ref 167), (2, .ref 115), (1, .ref 0), (0, .ref 1000000)], [], h') Q) : xw J ov 100 195 (1476, [(4, .int x4), (3, .ref 167), (2, .ref 115), (1, .ref 0), (0, .ref 1000000)], [], h) Q := by
  have K : xk [(6, 0), (123, 0), (9, 0), (124, 0), (7, 0), (10, 0), (5, 0), (8, 0)] h h := xk_re T
  refine xi_aload_n (pc' := 1477) (x := 0) kc_195_1476 rfl rfl ?_
  refine xi_aload_n (pc' := 1478) (x := 1000000) kc_195_1477 rfl rfl ?_
  refine xi_iload (pc' := 1480) (x := x4) kc_195_1478 rfl rfl ?_
  refine xi_iconst (pc' := 1481) (v := 1) kc_195_1480 rfl rfl ?_
  obtain ⟨v1, ev1⟩ : ∃ q : Int32, x4 + 1 = q := ⟨_, rfl⟩
  have zv1 : v1.toInt = (x4.toInt + 1) := by rw [← ev1]; exact (xz_add (X := x4.toInt) (Y := 1) rfl (by decide) (by omega) (by omega)).trans (by omega)
  refine xi_iadd (pc' := 1482) (v := v1) kc_195_1481 rfl ev1 ?_
  obtain ⟨a2, ea2⟩ : ∃ q : Int32, xs.getD (Int32.toNatClampNeg v1) 0 = q := ⟨_, rfl⟩
  have ra2 := xc_rng a2
  refine xi_ialoadO (pc' := 1483) (v := a2) kc_195_1482 rfl (by decide) hov0 (xi_in (by omega) (by omega)) ea2 ?_
  obtain ⟨u3, u4, bu3, bu4, A5⟩ := xq_0 K.1
  refine xi_virtual (mj := 190) (as := [.int a2]) (st1 := []) (lv0 := [(0, .ref 0), (1, .int a2)]) kc_195_1483 rfl rfl rfl rfl rfl A5 (Nat.le_of_ble_eq_true rfl) (hJ _ _ _ _ (by decide)) (xm_le ml_190 rfl) rfl ?_
  refine mt_190_0 hJ hov1 hov2 (d := 96) (x1 := a2) K.1 (fun r6 hh7 K8 => ?_)
  have br6 := xc_rng r6
  have K9 := xk_tr K K8 rfl
  obtain ⟨u10, u11, bu10, bu11, A12⟩ := xq_0 K9.1
  have e13 : u4 = u11 := xk_eqi (q := 9) K8 rfl A5 A12 rfl rfl
  subst e13
  show xw J ov 100 195 (1486, [(4, .int x4), (3, .ref 167), (2, .ref 115), (1, .ref 0), (0, .ref 1000000)], [.int r6], hh7) _
  refine xi_pop (pc' := 1487) kc_195_1486 rfl rfl ?_
  refine xi_aload_n (pc' := 1488) (x := 115) kc_195_1487 rfl rfl ?_
  refine xi_aload_n (pc' := 1489) (x := 1000000) kc_195_1488 rfl rfl ?_
  refine xi_iload (pc' := 1491) (x := x4) kc_195_1489 rfl rfl ?_
  refine xi_iconst (pc' := 1492) (v := 1) kc_195_1491 rfl rfl ?_
  refine xi_iadd (pc' := 1493) (v := v1) kc_195_1492 rfl ev1 ?_
  refine xi_ialoadO (pc' := 1494) (v := a2) kc_195_1493 rfl (by decide) hov0 (xi_in (by omega) (by omega)) ea2 ?_
  obtain ⟨u14, u15, u16, u17, u18, u19, u20, u21, u22, u23, u24, u25, u26, bu14, bu15, bu16, bu17, bu18, bu19, bu20, bu21, bu22, bu23, bu24, bu25, bu26, A27⟩ := xq_115 K9.1
  refine xi_virtual (mj := 75) (as := [.int a2]) (st1 := []) (lv0 := [(0, .ref 115), (1, .int a2)]) kc_195_1494 rfl rfl rfl rfl rfl A27 (Nat.le_of_ble_eq_true rfl) (hJ _ _ _ _ (by decide)) (xm_le ml_75 rfl) rfl ?_
  refine mt_75_0 hJ hov1 hov2 (d := 97) (x1 := a2) K9.1 (fun r28 hh29 K30 => ?_)
  have br28 := xc_rng r28
  have K31 := xk_tr K9 K30 rfl
  obtain ⟨u32, u33, bu32, bu33, A34⟩ := xq_0 K31.1
  have e35 : u4 = u33 := xk_eqi (q := 9) K30 rfl A12 A34 rfl rfl
  subst e35
  obtain ⟨u36, u37, u38, u39, u40, u41, u42, u43, u44, u45, u46, u47, u48, bu36, bu37, bu38, bu39, bu40, bu41, bu42, bu43, bu44, bu45, bu46, bu47, bu48, A49⟩ := xq_115 K31.1
  have e50 : u15 = u37 := xk_eqi (q := 1) K30 rfl A27 A49 rfl rfl
  subst e50
  show xw J ov 100 195 (1497, [(4, .int x4), (3, .ref 167), (2, .ref 115), (1, .ref 0), (0, .ref 1000000)], [.int r28], hh29) _
  refine xi_pop (pc' := 1498) kc_195_1497 rfl rfl ?_
  refine xi_goto (pc' := 1501) kc_195_1498 rfl ?_
  obtain ⟨v51, ev51⟩ : ∃ q : Int32, x4 + 6 = q := ⟨_, rfl⟩
  have zv51 : v51.toInt = (x4.toInt + 6) := by rw [← ev51]; exact (xz_add (X := x4.toInt) (Y := 6) rfl (by decide) (by omega) (by omega)).trans (by omega)
  refine xi_iinc (pc' := 1504) (x := x4) (v := v51) (lv' := [(4, .int v51), (3, .ref 167), (2, .ref 115), (1, .ref 0), (0, .ref 1000000)]) kc_195_1501 rfl rfl ev51 rfl (xm_lt ml_195 rfl) ?_
  refine xi_goto (pc' := 23) kc_195_1504 rfl ?_
  exact kk v51 hh29 (by omega) K31
