def xI (h : xe_H) : Prop := xl h (0, 9) = xl h (115, 1) ∧ xl h (85, 8) = xl h (115, 56)
theorem xI_kept {h h' : xe_H} (I : xI h) (F : ∀ l : Nat × Nat, List.elem l [(0, 9), (115, 1), (85, 8), (115, 56)] = true → xl h' l = xl h l) : xI h' := ⟨(F (0, 9) rfl).trans (I.1.trans (F (115, 1) rfl).symm), (F (85, 8) rfl).trans (I.2.trans (F (115, 56) rfl).symm)⟩
set_option maxHeartbeats 8000000 in
theorem lc_d {J : xe_J} {ov : List (List Int32)} (hJ : ∀ d mj as h, mj ≠ xe_loff → J d mj as h = none) (hov1 : ov[1]? = some [10, 0, 0, 0, 0, 0]) (hov2 : ov[2]? = some [99, 30, 50, 50, 1, 99999]) {xs : List Int32} (hov0 : ov[0]? = some xs) {Q : Option Value → xe_H → Prop} {h : xe_H} {x4 : Int32} (hi0 : 0 ≤ x4.toInt) (hi1 : x4.toInt + 6 ≤ xs.length) (hi2 : x4.toInt ≤ 3066) (T : xt h) (kk : ∀ (i : Int32) (h' : xe_H), i.toInt = x4.toInt + 6 → xk [(0, 9), (115, 1), (85, 8), (115, 56)] h h' → xw J ov 100 195 (23, [(4, .int i), (3, .ref 167), (2, .ref 115), (1, .ref 0), (0, .ref 1000000)], [], h') Q) : xw J ov 100 195 (1501, [(4, .int x4), (3, .ref 167), (2, .ref 115), (1, .ref 0), (0, .ref 1000000)], [], h) Q := by
  have K : xk [(0, 9), (115, 1), (85, 8), (115, 56)] h h := xk_re T
  obtain ⟨v1, ev1⟩ : ∃ q : Int32, x4 + 6 = q := ⟨_, rfl⟩
  have zv1 : v1.toInt = (x4.toInt + 6) := by rw [← ev1]; exact (xz_add (X := x4.toInt) (Y := 6) rfl (by decide) (by omega) (by omega)).trans (by omega)
  refine xi_iinc (pc' := 1504) (x := x4) (v := v1) (lv' := [(4, .int v1), (3, .ref 167), (2, .ref 115), (1, .ref 0), (0, .ref 1000000)]) kc_195_1501 rfl rfl ev1 rfl (xm_lt ml_195 rfl) ?_
  refine xi_goto (pc' := 23) kc_195_1504 rfl ?_
  exact kk v1 h (by omega) K
set_option maxHeartbeats 8000000 in
theorem lc_0 {J : xe_J} {ov : List (List Int32)} (hJ : ∀ d mj as h, mj ≠ xe_loff → J d mj as h = none) (hov1 : ov[1]? = some [10, 0, 0, 0, 0, 0]) (hov2 : ov[2]? = some [99, 30, 50, 50, 1, 99999]) {xs : List Int32} (hov0 : ov[0]? = some xs) {Q : Option Value → xe_H → Prop} {h : xe_H} {x4 : Int32} (hi0 : 0 ≤ x4.toInt) (hi1 : x4.toInt + 6 ≤ xs.length) (hi2 : x4.toInt ≤ 3066) (T : xt h) (kk : ∀ (i : Int32) (h' : xe_H), i.toInt = x4.toInt + 6 → xk [(0, 9), (115, 1), (85, 8), (115, 56)] h h' → xw J ov 100 195 (23, [(4, .int i), (3, .ref 167), (2, .ref 115), (1, .ref 0), (0, .ref 1000000)], [], h') Q) : xw J ov 100 195 (192, [(4, .int x4), (3, .ref 167), (2, .ref 115), (1, .ref 0), (0, .ref 1000000)], [], h) Q := by
  have K : xk [(0, 9), (115, 1), (85, 8), (115, 56)] h h := xk_re T
  refine xi_aload_n (pc' := 193) (x := 0) kc_195_192 rfl rfl ?_
  refine xi_aload_n (pc' := 194) (x := 1000000) kc_195_193 rfl rfl ?_
  refine xi_iload (pc' := 196) (x := x4) kc_195_194 rfl rfl ?_
  refine xi_iconst (pc' := 197) (v := 1) kc_195_196 rfl rfl ?_
  obtain ⟨v1, ev1⟩ : ∃ q : Int32, x4 + 1 = q := ⟨_, rfl⟩
  have zv1 : v1.toInt = (x4.toInt + 1) := by rw [← ev1]; exact (xz_add (X := x4.toInt) (Y := 1) rfl (by decide) (by omega) (by omega)).trans (by omega)
  refine xi_iadd (pc' := 198) (v := v1) kc_195_197 rfl ev1 ?_
  obtain ⟨a2, ea2⟩ : ∃ q : Int32, xs.getD (Int32.toNatClampNeg v1) 0 = q := ⟨_, rfl⟩
  have ra2 := xc_rng a2
  refine xi_ialoadO (pc' := 199) (v := a2) kc_195_198 rfl (by decide) hov0 (xi_in (by omega) (by omega)) ea2 ?_
  refine xi_aload_n (pc' := 200) (x := 1000000) kc_195_199 rfl rfl ?_
  refine xi_iload (pc' := 202) (x := x4) kc_195_200 rfl rfl ?_
  refine xi_iconst (pc' := 203) (v := 2) kc_195_202 rfl rfl ?_
  obtain ⟨v3, ev3⟩ : ∃ q : Int32, x4 + 2 = q := ⟨_, rfl⟩
  have zv3 : v3.toInt = (x4.toInt + 2) := by rw [← ev3]; exact (xz_add (X := x4.toInt) (Y := 2) rfl (by decide) (by omega) (by omega)).trans (by omega)
  refine xi_iadd (pc' := 204) (v := v3) kc_195_203 rfl ev3 ?_
  obtain ⟨a4, ea4⟩ : ∃ q : Int32, xs.getD (Int32.toNatClampNeg v3) 0 = q := ⟨_, rfl⟩
  have ra4 := xc_rng a4
  refine xi_ialoadO (pc' := 205) (v := a4) kc_195_204 rfl (by decide) hov0 (xi_in (by omega) (by omega)) ea4 ?_
  refine xi_aload_n (pc' := 206) (x := 1000000) kc_195_205 rfl rfl ?_
  refine xi_iload (pc' := 208) (x := x4) kc_195_206 rfl rfl ?_
  refine xi_iconst (pc' := 209) (v := 3) kc_195_208 rfl rfl ?_
  obtain ⟨v5, ev5⟩ : ∃ q : Int32, x4 + 3 = q := ⟨_, rfl⟩
  have zv5 : v5.toInt = (x4.toInt + 3) := by rw [← ev5]; exact (xz_add (X := x4.toInt) (Y := 3) rfl (by decide) (by omega) (by omega)).trans (by omega)
  refine xi_iadd (pc' := 210) (v := v5) kc_195_209 rfl ev5 ?_
  obtain ⟨a6, ea6⟩ : ∃ q : Int32, xs.getD (Int32.toNatClampNeg v5) 0 = q := ⟨_, rfl⟩
  have ra6 := xc_rng a6
  refine xi_ialoadO (pc' := 211) (v := a6) kc_195_210 rfl (by decide) hov0 (xi_in (by omega) (by omega)) ea6 ?_
  obtain ⟨u7, u8, bu7, bu8, A9⟩ := xq_0 K.1
  refine xi_virtual (mj := 88) (as := [.int a2, .int a4, .int a6]) (st1 := []) (lv0 := [(0, .ref 0), (1, .int a2), (2, .int a4), (3, .int a6)]) kc_195_211 rfl rfl rfl rfl rfl A9 (Nat.le_of_ble_eq_true rfl) (hJ _ _ _ _ (by decide)) (xm_le ml_88 rfl) rfl ?_
  refine mt_88_0 hJ hov1 hov2 (d := 97) (x1 := a2) (x2 := a4) (x3 := a6) K.1 (fun r10 hh11 K12 => ?_)
  have br10 := xc_rng r10
  have K13 := xk_tr K K12 rfl
  obtain ⟨u14, u15, bu14, bu15, A16⟩ := xq_0 K13.1
  have e17 : u8 = u15 := xk_eqi (q := 9) K12 rfl A9 A16 rfl rfl
  subst e17
  show xw J ov 100 195 (214, [(4, .int x4), (3, .ref 167), (2, .ref 115), (1, .ref 0), (0, .ref 1000000)], [.int r10], hh11) _
  refine xi_pop (pc' := 215) kc_195_214 rfl rfl ?_
  refine xi_aload_n (pc' := 216) (x := 115) kc_195_215 rfl rfl ?_
  refine xi_aload_n (pc' := 217) (x := 1000000) kc_195_216 rfl rfl ?_
  refine xi_iload (pc' := 219) (x := x4) kc_195_217 rfl rfl ?_
  refine xi_iconst (pc' := 220) (v := 1) kc_195_219 rfl rfl ?_
  refine xi_iadd (pc' := 221) (v := v1) kc_195_220 rfl ev1 ?_
  refine xi_ialoadO (pc' := 222) (v := a2) kc_195_221 rfl (by decide) hov0 (xi_in (by omega) (by omega)) ea2 ?_
  refine xi_aload_n (pc' := 223) (x := 1000000) kc_195_222 rfl rfl ?_
  refine xi_iload (pc' := 225) (x := x4) kc_195_223 rfl rfl ?_
  refine xi_iconst (pc' := 226) (v := 2) kc_195_225 rfl rfl ?_
  refine xi_iadd (pc' := 227) (v := v3) kc_195_226 rfl ev3 ?_
  refine xi_ialoadO (pc' := 228) (v := a4) kc_195_227 rfl (by decide) hov0 (xi_in (by omega) (by omega)) ea4 ?_
  refine xi_aload_n (pc' := 229) (x := 1000000) kc_195_228 rfl rfl ?_
  refine xi_iload (pc' := 231) (x := x4) kc_195_229 rfl rfl ?_
  refine xi_iconst (pc' := 232) (v := 3) kc_195_231 rfl rfl ?_
  refine xi_iadd (pc' := 233) (v := v5) kc_195_232 rfl ev5 ?_
  refine xi_ialoadO (pc' := 234) (v := a6) kc_195_233 rfl (by decide) hov0 (xi_in (by omega) (by omega)) ea6 ?_
  obtain ⟨u18, u19, u20, u21, u22, u23, u24, u25, u26, u27, u28, u29, u30, bu18, bu19, bu20, bu21, bu22, bu23, bu24, bu25, bu26, bu27, bu28, bu29, bu30, A31⟩ := xq_115 K13.1
  refine xi_virtual (mj := 9) (as := [.int a2, .int a4, .int a6]) (st1 := []) (lv0 := [(0, .ref 115), (1, .int a2), (2, .int a4), (3, .int a6)]) kc_195_234 rfl rfl rfl rfl rfl A31 (Nat.le_of_ble_eq_true rfl) (hJ _ _ _ _ (by decide)) (xm_le ml_9 rfl) rfl ?_
  refine mt_9_0 hJ hov1 hov2 (d := 97) (x1 := a2) (x2 := a4) (x3 := a6) K13.1 (fun r32 hh33 K34 => ?_)
  have br32 := xc_rng r32
  have K35 := xk_tr K13 K34 rfl
  obtain ⟨u36, u37, bu36, bu37, A38⟩ := xq_0 K35.1
  have e39 : u8 = u37 := xk_eqi (q := 9) K34 rfl A16 A38 rfl rfl
  subst e39
  obtain ⟨u40, u41, u42, u43, u44, u45, u46, u47, u48, u49, u50, u51, u52, bu40, bu41, bu42, bu43, bu44, bu45, bu46, bu47, bu48, bu49, bu50, bu51, bu52, A53⟩ := xq_115 K35.1
  have e54 : u19 = u41 := xk_eqi (q := 1) K34 rfl A31 A53 rfl rfl
  subst e54
  have e55 : u29 = u51 := xk_eqi (q := 56) K34 rfl A31 A53 rfl rfl
  subst e55
  show xw J ov 100 195 (237, [(4, .int x4), (3, .ref 167), (2, .ref 115), (1, .ref 0), (0, .ref 1000000)], [.int r32], hh33) _
  refine xi_pop (pc' := 238) kc_195_237 rfl rfl ?_
  refine xi_goto (pc' := 1501) kc_195_238 rfl ?_
  obtain ⟨v56, ev56⟩ : ∃ q : Int32, x4 + 6 = q := ⟨_, rfl⟩
  have zv56 : v56.toInt = (x4.toInt + 6) := by rw [← ev56]; exact (xz_add (X := x4.toInt) (Y := 6) rfl (by decide) (by omega) (by omega)).trans (by omega)
  refine xi_iinc (pc' := 1504) (x := x4) (v := v56) (lv' := [(4, .int v56), (3, .ref 167), (2, .ref 115), (1, .ref 0), (0, .ref 1000000)]) kc_195_1501 rfl rfl ev56 rfl (xm_lt ml_195 rfl) ?_
  refine xi_goto (pc' := 23) kc_195_1504 rfl ?_
  exact kk v56 hh33 (by omega) K35
set_option maxHeartbeats 8000000 in
theorem lc_1 {J : xe_J} {ov : List (List Int32)} (hJ : ∀ d mj as h, mj ≠ xe_loff → J d mj as h = none) (hov1 : ov[1]? = some [10, 0, 0, 0, 0, 0]) (hov2 : ov[2]? = some [99, 30, 50, 50, 1, 99999]) {xs : List Int32} (hov0 : ov[0]? = some xs) {Q : Option Value → xe_H → Prop} {h : xe_H} {x4 : Int32} (hi0 : 0 ≤ x4.toInt) (hi1 : x4.toInt + 6 ≤ xs.length) (hi2 : x4.toInt ≤ 3066) (T : xt h) (kk : ∀ (i : Int32) (h' : xe_H), i.toInt = x4.toInt + 6 → xk [(0, 9), (115, 1), (85, 8), (115, 56)] h h' → xw J ov 100 195 (23, [(4, .int i), (3, .ref 167), (2, .ref 115), (1, .ref 0), (0, .ref 1000000)], [], h') Q) : xw J ov 100 195 (241, [(4, .int x4), (3, .ref 167), (2, .ref 115), (1, .ref 0), (0, .ref 1000000)], [], h) Q := by
  have K : xk [(0, 9), (115, 1), (85, 8), (115, 56)] h h := xk_re T
  refine xi_aload_n (pc' := 242) (x := 0) kc_195_241 rfl rfl ?_
  refine xi_aload_n (pc' := 243) (x := 1000000) kc_195_242 rfl rfl ?_
  refine xi_iload (pc' := 245) (x := x4) kc_195_243 rfl rfl ?_
  refine xi_iconst (pc' := 246) (v := 1) kc_195_245 rfl rfl ?_
  obtain ⟨v1, ev1⟩ : ∃ q : Int32, x4 + 1 = q := ⟨_, rfl⟩
  have zv1 : v1.toInt = (x4.toInt + 1) := by rw [← ev1]; exact (xz_add (X := x4.toInt) (Y := 1) rfl (by decide) (by omega) (by omega)).trans (by omega)
  refine xi_iadd (pc' := 247) (v := v1) kc_195_246 rfl ev1 ?_
  obtain ⟨a2, ea2⟩ : ∃ q : Int32, xs.getD (Int32.toNatClampNeg v1) 0 = q := ⟨_, rfl⟩
  have ra2 := xc_rng a2
  refine xi_ialoadO (pc' := 248) (v := a2) kc_195_247 rfl (by decide) hov0 (xi_in (by omega) (by omega)) ea2 ?_
  refine xi_aload_n (pc' := 249) (x := 1000000) kc_195_248 rfl rfl ?_
  refine xi_iload (pc' := 251) (x := x4) kc_195_249 rfl rfl ?_
  refine xi_iconst (pc' := 252) (v := 2) kc_195_251 rfl rfl ?_
  obtain ⟨v3, ev3⟩ : ∃ q : Int32, x4 + 2 = q := ⟨_, rfl⟩
  have zv3 : v3.toInt = (x4.toInt + 2) := by rw [← ev3]; exact (xz_add (X := x4.toInt) (Y := 2) rfl (by decide) (by omega) (by omega)).trans (by omega)
  refine xi_iadd (pc' := 253) (v := v3) kc_195_252 rfl ev3 ?_
  obtain ⟨a4, ea4⟩ : ∃ q : Int32, xs.getD (Int32.toNatClampNeg v3) 0 = q := ⟨_, rfl⟩
  have ra4 := xc_rng a4
  refine xi_ialoadO (pc' := 254) (v := a4) kc_195_253 rfl (by decide) hov0 (xi_in (by omega) (by omega)) ea4 ?_
  refine xi_aload_n (pc' := 255) (x := 1000000) kc_195_254 rfl rfl ?_
  refine xi_iload (pc' := 257) (x := x4) kc_195_255 rfl rfl ?_
  refine xi_iconst (pc' := 258) (v := 3) kc_195_257 rfl rfl ?_
  obtain ⟨v5, ev5⟩ : ∃ q : Int32, x4 + 3 = q := ⟨_, rfl⟩
  have zv5 : v5.toInt = (x4.toInt + 3) := by rw [← ev5]; exact (xz_add (X := x4.toInt) (Y := 3) rfl (by decide) (by omega) (by omega)).trans (by omega)
  refine xi_iadd (pc' := 259) (v := v5) kc_195_258 rfl ev5 ?_
  obtain ⟨a6, ea6⟩ : ∃ q : Int32, xs.getD (Int32.toNatClampNeg v5) 0 = q := ⟨_, rfl⟩
  have ra6 := xc_rng a6
  refine xi_ialoadO (pc' := 260) (v := a6) kc_195_259 rfl (by decide) hov0 (xi_in (by omega) (by omega)) ea6 ?_
  obtain ⟨u7, u8, bu7, bu8, A9⟩ := xq_0 K.1
  refine xi_virtual (mj := 94) (as := [.int a2, .int a4, .int a6]) (st1 := []) (lv0 := [(0, .ref 0), (1, .int a2), (2, .int a4), (3, .int a6)]) kc_195_260 rfl rfl rfl rfl rfl A9 (Nat.le_of_ble_eq_true rfl) (hJ _ _ _ _ (by decide)) (xm_le ml_94 rfl) rfl ?_
  refine mt_94_0 hJ hov1 hov2 (d := 98) (x1 := a2) (x2 := a4) (x3 := a6) K.1 (fun r10 hh11 K12 => ?_)
  have br10 := xc_rng r10
  have K13 := xk_tr K K12 rfl
  obtain ⟨u14, u15, bu14, bu15, A16⟩ := xq_0 K13.1
  have e17 : u8 = u15 := xk_eqi (q := 9) K12 rfl A9 A16 rfl rfl
  subst e17
  show xw J ov 100 195 (263, [(4, .int x4), (3, .ref 167), (2, .ref 115), (1, .ref 0), (0, .ref 1000000)], [.int r10], hh11) _
  refine xi_pop (pc' := 264) kc_195_263 rfl rfl ?_
  refine xi_aload_n (pc' := 265) (x := 115) kc_195_264 rfl rfl ?_
  refine xi_aload_n (pc' := 266) (x := 1000000) kc_195_265 rfl rfl ?_
  refine xi_iload (pc' := 268) (x := x4) kc_195_266 rfl rfl ?_
  refine xi_iconst (pc' := 269) (v := 1) kc_195_268 rfl rfl ?_
  refine xi_iadd (pc' := 270) (v := v1) kc_195_269 rfl ev1 ?_
  refine xi_ialoadO (pc' := 271) (v := a2) kc_195_270 rfl (by decide) hov0 (xi_in (by omega) (by omega)) ea2 ?_
  refine xi_aload_n (pc' := 272) (x := 1000000) kc_195_271 rfl rfl ?_
  refine xi_iload (pc' := 274) (x := x4) kc_195_272 rfl rfl ?_
  refine xi_iconst (pc' := 275) (v := 2) kc_195_274 rfl rfl ?_
  refine xi_iadd (pc' := 276) (v := v3) kc_195_275 rfl ev3 ?_
  refine xi_ialoadO (pc' := 277) (v := a4) kc_195_276 rfl (by decide) hov0 (xi_in (by omega) (by omega)) ea4 ?_
  refine xi_aload_n (pc' := 278) (x := 1000000) kc_195_277 rfl rfl ?_
  refine xi_iload (pc' := 280) (x := x4) kc_195_278 rfl rfl ?_
  refine xi_iconst (pc' := 281) (v := 3) kc_195_280 rfl rfl ?_
  refine xi_iadd (pc' := 282) (v := v5) kc_195_281 rfl ev5 ?_
  refine xi_ialoadO (pc' := 283) (v := a6) kc_195_282 rfl (by decide) hov0 (xi_in (by omega) (by omega)) ea6 ?_
  obtain ⟨u18, u19, u20, u21, u22, u23, u24, u25, u26, u27, u28, u29, u30, bu18, bu19, bu20, bu21, bu22, bu23, bu24, bu25, bu26, bu27, bu28, bu29, bu30, A31⟩ := xq_115 K13.1
  refine xi_virtual (mj := 15) (as := [.int a2, .int a4, .int a6]) (st1 := []) (lv0 := [(0, .ref 115), (1, .int a2), (2, .int a4), (3, .int a6)]) kc_195_283 rfl rfl rfl rfl rfl A31 (Nat.le_of_ble_eq_true rfl) (hJ _ _ _ _ (by decide)) (xm_le ml_15 rfl) rfl ?_
  refine mt_15_0 hJ hov1 hov2 (d := 97) (x1 := a2) (x2 := a4) (x3 := a6) K13.1 (fun r32 hh33 K34 => ?_)
  have br32 := xc_rng r32
  have K35 := xk_tr K13 K34 rfl
  obtain ⟨u36, u37, bu36, bu37, A38⟩ := xq_0 K35.1
  have e39 : u8 = u37 := xk_eqi (q := 9) K34 rfl A16 A38 rfl rfl
  subst e39
  obtain ⟨u40, u41, u42, u43, u44, u45, u46, u47, u48, u49, u50, u51, u52, bu40, bu41, bu42, bu43, bu44, bu45, bu46, bu47, bu48, bu49, bu50, bu51, bu52, A53⟩ := xq_115 K35.1
  have e54 : u19 = u41 := xk_eqi (q := 1) K34 rfl A31 A53 rfl rfl
  subst e54
  have e55 : u29 = u51 := xk_eqi (q := 56) K34 rfl A31 A53 rfl rfl
  subst e55
  show xw J ov 100 195 (286, [(4, .int x4), (3, .ref 167), (2, .ref 115), (1, .ref 0), (0, .ref 1000000)], [.int r32], hh33) _
  refine xi_pop (pc' := 287) kc_195_286 rfl rfl ?_
  refine xi_goto (pc' := 1501) kc_195_287 rfl ?_
  obtain ⟨v56, ev56⟩ : ∃ q : Int32, x4 + 6 = q := ⟨_, rfl⟩
  have zv56 : v56.toInt = (x4.toInt + 6) := by rw [← ev56]; exact (xz_add (X := x4.toInt) (Y := 6) rfl (by decide) (by omega) (by omega)).trans (by omega)
  refine xi_iinc (pc' := 1504) (x := x4) (v := v56) (lv' := [(4, .int v56), (3, .ref 167), (2, .ref 115), (1, .ref 0), (0, .ref 1000000)]) kc_195_1501 rfl rfl ev56 rfl (xm_lt ml_195 rfl) ?_
  refine xi_goto (pc' := 23) kc_195_1504 rfl ?_
  exact kk v56 hh33 (by omega) K35
set_option maxHeartbeats 8000000 in
theorem lc_2 {J : xe_J} {ov : List (List Int32)} (hJ : ∀ d mj as h, mj ≠ xe_loff → J d mj as h = none) (hov1 : ov[1]? = some [10, 0, 0, 0, 0, 0]) (hov2 : ov[2]? = some [99, 30, 50, 50, 1, 99999]) {xs : List Int32} (hov0 : ov[0]? = some xs) {Q : Option Value → xe_H → Prop} {h : xe_H} {x4 : Int32} (hi0 : 0 ≤ x4.toInt) (hi1 : x4.toInt + 6 ≤ xs.length) (hi2 : x4.toInt ≤ 3066) (T : xt h) (kk : ∀ (i : Int32) (h' : xe_H), i.toInt = x4.toInt + 6 → xk [(0, 9), (115, 1), (85, 8), (115, 56)] h h' → xw J ov 100 195 (23, [(4, .int i), (3, .ref 167), (2, .ref 115), (1, .ref 0), (0, .ref 1000000)], [], h') Q) : xw J ov 100 195 (290, [(4, .int x4), (3, .ref 167), (2, .ref 115), (1, .ref 0), (0, .ref 1000000)], [], h) Q := by
  have K : xk [(0, 9), (115, 1), (85, 8), (115, 56)] h h := xk_re T
  refine xi_aload_n (pc' := 291) (x := 0) kc_195_290 rfl rfl ?_
  refine xi_aload_n (pc' := 292) (x := 1000000) kc_195_291 rfl rfl ?_
  refine xi_iload (pc' := 294) (x := x4) kc_195_292 rfl rfl ?_
  refine xi_iconst (pc' := 295) (v := 1) kc_195_294 rfl rfl ?_
  obtain ⟨v1, ev1⟩ : ∃ q : Int32, x4 + 1 = q := ⟨_, rfl⟩
  have zv1 : v1.toInt = (x4.toInt + 1) := by rw [← ev1]; exact (xz_add (X := x4.toInt) (Y := 1) rfl (by decide) (by omega) (by omega)).trans (by omega)
  refine xi_iadd (pc' := 296) (v := v1) kc_195_295 rfl ev1 ?_
  obtain ⟨a2, ea2⟩ : ∃ q : Int32, xs.getD (Int32.toNatClampNeg v1) 0 = q := ⟨_, rfl⟩
  have ra2 := xc_rng a2
  refine xi_ialoadO (pc' := 297) (v := a2) kc_195_296 rfl (by decide) hov0 (xi_in (by omega) (by omega)) ea2 ?_
  refine xi_aload_n (pc' := 298) (x := 1000000) kc_195_297 rfl rfl ?_
  refine xi_iload (pc' := 300) (x := x4) kc_195_298 rfl rfl ?_
  refine xi_iconst (pc' := 301) (v := 2) kc_195_300 rfl rfl ?_
  obtain ⟨v3, ev3⟩ : ∃ q : Int32, x4 + 2 = q := ⟨_, rfl⟩
  have zv3 : v3.toInt = (x4.toInt + 2) := by rw [← ev3]; exact (xz_add (X := x4.toInt) (Y := 2) rfl (by decide) (by omega) (by omega)).trans (by omega)
  refine xi_iadd (pc' := 302) (v := v3) kc_195_301 rfl ev3 ?_
  obtain ⟨a4, ea4⟩ : ∃ q : Int32, xs.getD (Int32.toNatClampNeg v3) 0 = q := ⟨_, rfl⟩
  have ra4 := xc_rng a4
  refine xi_ialoadO (pc' := 303) (v := a4) kc_195_302 rfl (by decide) hov0 (xi_in (by omega) (by omega)) ea4 ?_
  refine xi_aload_n (pc' := 304) (x := 1000000) kc_195_303 rfl rfl ?_
  refine xi_iload (pc' := 306) (x := x4) kc_195_304 rfl rfl ?_
  refine xi_iconst (pc' := 307) (v := 3) kc_195_306 rfl rfl ?_
  obtain ⟨v5, ev5⟩ : ∃ q : Int32, x4 + 3 = q := ⟨_, rfl⟩
  have zv5 : v5.toInt = (x4.toInt + 3) := by rw [← ev5]; exact (xz_add (X := x4.toInt) (Y := 3) rfl (by decide) (by omega) (by omega)).trans (by omega)
  refine xi_iadd (pc' := 308) (v := v5) kc_195_307 rfl ev5 ?_
  obtain ⟨a6, ea6⟩ : ∃ q : Int32, xs.getD (Int32.toNatClampNeg v5) 0 = q := ⟨_, rfl⟩
  have ra6 := xc_rng a6
  refine xi_ialoadO (pc' := 309) (v := a6) kc_195_308 rfl (by decide) hov0 (xi_in (by omega) (by omega)) ea6 ?_
  obtain ⟨u7, u8, bu7, bu8, A9⟩ := xq_0 K.1
  refine xi_virtual (mj := 95) (as := [.int a2, .int a4, .int a6]) (st1 := []) (lv0 := [(0, .ref 0), (1, .int a2), (2, .int a4), (3, .int a6)]) kc_195_309 rfl rfl rfl rfl rfl A9 (Nat.le_of_ble_eq_true rfl) (hJ _ _ _ _ (by decide)) (xm_le ml_95 rfl) rfl ?_
  refine mt_95_0 hJ hov1 hov2 (d := 97) (x1 := a2) (x2 := a4) (x3 := a6) K.1 (fun r10 hh11 K12 => ?_)
  have br10 := xc_rng r10
  have K13 := xk_tr K K12 rfl
  obtain ⟨u14, u15, bu14, bu15, A16⟩ := xq_0 K13.1
  have e17 : u8 = u15 := xk_eqi (q := 9) K12 rfl A9 A16 rfl rfl
  subst e17
  show xw J ov 100 195 (312, [(4, .int x4), (3, .ref 167), (2, .ref 115), (1, .ref 0), (0, .ref 1000000)], [.int r10], hh11) _
  refine xi_pop (pc' := 313) kc_195_312 rfl rfl ?_
  refine xi_aload_n (pc' := 314) (x := 115) kc_195_313 rfl rfl ?_
  refine xi_aload_n (pc' := 315) (x := 1000000) kc_195_314 rfl rfl ?_
  refine xi_iload (pc' := 317) (x := x4) kc_195_315 rfl rfl ?_
  refine xi_iconst (pc' := 318) (v := 1) kc_195_317 rfl rfl ?_
  refine xi_iadd (pc' := 319) (v := v1) kc_195_318 rfl ev1 ?_
  refine xi_ialoadO (pc' := 320) (v := a2) kc_195_319 rfl (by decide) hov0 (xi_in (by omega) (by omega)) ea2 ?_
  refine xi_aload_n (pc' := 321) (x := 1000000) kc_195_320 rfl rfl ?_
  refine xi_iload (pc' := 323) (x := x4) kc_195_321 rfl rfl ?_
  refine xi_iconst (pc' := 324) (v := 2) kc_195_323 rfl rfl ?_
  refine xi_iadd (pc' := 325) (v := v3) kc_195_324 rfl ev3 ?_
  refine xi_ialoadO (pc' := 326) (v := a4) kc_195_325 rfl (by decide) hov0 (xi_in (by omega) (by omega)) ea4 ?_
  refine xi_aload_n (pc' := 327) (x := 1000000) kc_195_326 rfl rfl ?_
  refine xi_iload (pc' := 329) (x := x4) kc_195_327 rfl rfl ?_
  refine xi_iconst (pc' := 330) (v := 3) kc_195_329 rfl rfl ?_
  refine xi_iadd (pc' := 331) (v := v5) kc_195_330 rfl ev5 ?_
  refine xi_ialoadO (pc' := 332) (v := a6) kc_195_331 rfl (by decide) hov0 (xi_in (by omega) (by omega)) ea6 ?_
  obtain ⟨u18, u19, u20, u21, u22, u23, u24, u25, u26, u27, u28, u29, u30, bu18, bu19, bu20, bu21, bu22, bu23, bu24, bu25, bu26, bu27, bu28, bu29, bu30, A31⟩ := xq_115 K13.1
  refine xi_virtual (mj := 16) (as := [.int a2, .int a4, .int a6]) (st1 := []) (lv0 := [(0, .ref 115), (1, .int a2), (2, .int a4), (3, .int a6)]) kc_195_332 rfl rfl rfl rfl rfl A31 (Nat.le_of_ble_eq_true rfl) (hJ _ _ _ _ (by decide)) (xm_le ml_16 rfl) rfl ?_
  refine mt_16_0 hJ hov1 hov2 (d := 98) (x1 := a2) (x2 := a4) (x3 := a6) K13.1 (fun r32 hh33 K34 => ?_)
  have br32 := xc_rng r32
  have K35 := xk_tr K13 K34 rfl
  obtain ⟨u36, u37, bu36, bu37, A38⟩ := xq_0 K35.1
  have e39 : u8 = u37 := xk_eqi (q := 9) K34 rfl A16 A38 rfl rfl
  subst e39
  obtain ⟨u40, u41, u42, u43, u44, u45, u46, u47, u48, u49, u50, u51, u52, bu40, bu41, bu42, bu43, bu44, bu45, bu46, bu47, bu48, bu49, bu50, bu51, bu52, A53⟩ := xq_115 K35.1
  have e54 : u19 = u41 := xk_eqi (q := 1) K34 rfl A31 A53 rfl rfl
  subst e54
  have e55 : u29 = u51 := xk_eqi (q := 56) K34 rfl A31 A53 rfl rfl
  subst e55
  show xw J ov 100 195 (335, [(4, .int x4), (3, .ref 167), (2, .ref 115), (1, .ref 0), (0, .ref 1000000)], [.int r32], hh33) _
  refine xi_pop (pc' := 336) kc_195_335 rfl rfl ?_
  refine xi_goto (pc' := 1501) kc_195_336 rfl ?_
  obtain ⟨v56, ev56⟩ : ∃ q : Int32, x4 + 6 = q := ⟨_, rfl⟩
  have zv56 : v56.toInt = (x4.toInt + 6) := by rw [← ev56]; exact (xz_add (X := x4.toInt) (Y := 6) rfl (by decide) (by omega) (by omega)).trans (by omega)
  refine xi_iinc (pc' := 1504) (x := x4) (v := v56) (lv' := [(4, .int v56), (3, .ref 167), (2, .ref 115), (1, .ref 0), (0, .ref 1000000)]) kc_195_1501 rfl rfl ev56 rfl (xm_lt ml_195 rfl) ?_
  refine xi_goto (pc' := 23) kc_195_1504 rfl ?_
  exact kk v56 hh33 (by omega) K35
set_option maxHeartbeats 8000000 in
theorem lc_3 {J : xe_J} {ov : List (List Int32)} (hJ : ∀ d mj as h, mj ≠ xe_loff → J d mj as h = none) (hov1 : ov[1]? = some [10, 0, 0, 0, 0, 0]) (hov2 : ov[2]? = some [99, 30, 50, 50, 1, 99999]) {xs : List Int32} (hov0 : ov[0]? = some xs) {Q : Option Value → xe_H → Prop} {h : xe_H} {x4 : Int32} (hi0 : 0 ≤ x4.toInt) (hi1 : x4.toInt + 6 ≤ xs.length) (hi2 : x4.toInt ≤ 3066) (T : xt h) (kk : ∀ (i : Int32) (h' : xe_H), i.toInt = x4.toInt + 6 → xk [(0, 9), (115, 1), (85, 8), (115, 56)] h h' → xw J ov 100 195 (23, [(4, .int i), (3, .ref 167), (2, .ref 115), (1, .ref 0), (0, .ref 1000000)], [], h') Q) : xw J ov 100 195 (339, [(4, .int x4), (3, .ref 167), (2, .ref 115), (1, .ref 0), (0, .ref 1000000)], [], h) Q := by
  have K : xk [(0, 9), (115, 1), (85, 8), (115, 56)] h h := xk_re T
  refine xi_aload_n (pc' := 340) (x := 0) kc_195_339 rfl rfl ?_
  refine xi_aload_n (pc' := 341) (x := 1000000) kc_195_340 rfl rfl ?_
  refine xi_iload (pc' := 343) (x := x4) kc_195_341 rfl rfl ?_
  refine xi_iconst (pc' := 344) (v := 1) kc_195_343 rfl rfl ?_
  obtain ⟨v1, ev1⟩ : ∃ q : Int32, x4 + 1 = q := ⟨_, rfl⟩
  have zv1 : v1.toInt = (x4.toInt + 1) := by rw [← ev1]; exact (xz_add (X := x4.toInt) (Y := 1) rfl (by decide) (by omega) (by omega)).trans (by omega)
  refine xi_iadd (pc' := 345) (v := v1) kc_195_344 rfl ev1 ?_
  obtain ⟨a2, ea2⟩ : ∃ q : Int32, xs.getD (Int32.toNatClampNeg v1) 0 = q := ⟨_, rfl⟩
  have ra2 := xc_rng a2
  refine xi_ialoadO (pc' := 346) (v := a2) kc_195_345 rfl (by decide) hov0 (xi_in (by omega) (by omega)) ea2 ?_
  refine xi_aload_n (pc' := 347) (x := 1000000) kc_195_346 rfl rfl ?_
  refine xi_iload (pc' := 349) (x := x4) kc_195_347 rfl rfl ?_
  refine xi_iconst (pc' := 350) (v := 2) kc_195_349 rfl rfl ?_
  obtain ⟨v3, ev3⟩ : ∃ q : Int32, x4 + 2 = q := ⟨_, rfl⟩
  have zv3 : v3.toInt = (x4.toInt + 2) := by rw [← ev3]; exact (xz_add (X := x4.toInt) (Y := 2) rfl (by decide) (by omega) (by omega)).trans (by omega)
  refine xi_iadd (pc' := 351) (v := v3) kc_195_350 rfl ev3 ?_
  obtain ⟨a4, ea4⟩ : ∃ q : Int32, xs.getD (Int32.toNatClampNeg v3) 0 = q := ⟨_, rfl⟩
  have ra4 := xc_rng a4
  refine xi_ialoadO (pc' := 352) (v := a4) kc_195_351 rfl (by decide) hov0 (xi_in (by omega) (by omega)) ea4 ?_
  obtain ⟨u5, u6, bu5, bu6, A7⟩ := xq_0 K.1
  refine xi_virtual (mj := 100) (as := [.int a2, .int a4]) (st1 := []) (lv0 := [(0, .ref 0), (1, .int a2), (2, .int a4)]) kc_195_352 rfl rfl rfl rfl rfl A7 (Nat.le_of_ble_eq_true rfl) (hJ _ _ _ _ (by decide)) (xm_le ml_100 rfl) rfl ?_
  refine mt_100_0 hJ hov1 hov2 (d := 97) (x1 := a2) (x2 := a4) K.1 (fun r8 hh9 K10 => ?_)
  have br8 := xc_rng r8
  have K11 := xk_tr K K10 rfl
  obtain ⟨u12, u13, bu12, bu13, A14⟩ := xq_0 K11.1
  have e15 : u6 = u13 := xk_eqi (q := 9) K10 rfl A7 A14 rfl rfl
  subst e15
  show xw J ov 100 195 (355, [(4, .int x4), (3, .ref 167), (2, .ref 115), (1, .ref 0), (0, .ref 1000000)], [.int r8], hh9) _
  refine xi_pop (pc' := 356) kc_195_355 rfl rfl ?_
  refine xi_aload_n (pc' := 357) (x := 115) kc_195_356 rfl rfl ?_
  refine xi_aload_n (pc' := 358) (x := 1000000) kc_195_357 rfl rfl ?_
  refine xi_iload (pc' := 360) (x := x4) kc_195_358 rfl rfl ?_
  refine xi_iconst (pc' := 361) (v := 1) kc_195_360 rfl rfl ?_
  refine xi_iadd (pc' := 362) (v := v1) kc_195_361 rfl ev1 ?_
  refine xi_ialoadO (pc' := 363) (v := a2) kc_195_362 rfl (by decide) hov0 (xi_in (by omega) (by omega)) ea2 ?_
  refine xi_aload_n (pc' := 364) (x := 1000000) kc_195_363 rfl rfl ?_
  refine xi_iload (pc' := 366) (x := x4) kc_195_364 rfl rfl ?_
  refine xi_iconst (pc' := 367) (v := 2) kc_195_366 rfl rfl ?_
  refine xi_iadd (pc' := 368) (v := v3) kc_195_367 rfl ev3 ?_
  refine xi_ialoadO (pc' := 369) (v := a4) kc_195_368 rfl (by decide) hov0 (xi_in (by omega) (by omega)) ea4 ?_
  obtain ⟨u16, u17, u18, u19, u20, u21, u22, u23, u24, u25, u26, u27, u28, bu16, bu17, bu18, bu19, bu20, bu21, bu22, bu23, bu24, bu25, bu26, bu27, bu28, A29⟩ := xq_115 K11.1
  refine xi_virtual (mj := 18) (as := [.int a2, .int a4]) (st1 := []) (lv0 := [(0, .ref 115), (1, .int a2), (2, .int a4)]) kc_195_369 rfl rfl rfl rfl rfl A29 (Nat.le_of_ble_eq_true rfl) (hJ _ _ _ _ (by decide)) (xm_le ml_18 rfl) rfl ?_
  refine mt_18_0 hJ hov1 hov2 (d := 97) (x1 := a2) (x2 := a4) K11.1 (fun r30 hh31 K32 => ?_)
  have br30 := xc_rng r30
  have K33 := xk_tr K11 K32 rfl
  obtain ⟨u34, u35, bu34, bu35, A36⟩ := xq_0 K33.1
  have e37 : u6 = u35 := xk_eqi (q := 9) K32 rfl A14 A36 rfl rfl
  subst e37
  obtain ⟨u38, u39, u40, u41, u42, u43, u44, u45, u46, u47, u48, u49, u50, bu38, bu39, bu40, bu41, bu42, bu43, bu44, bu45, bu46, bu47, bu48, bu49, bu50, A51⟩ := xq_115 K33.1
  have e52 : u17 = u39 := xk_eqi (q := 1) K32 rfl A29 A51 rfl rfl
  subst e52
  have e53 : u27 = u49 := xk_eqi (q := 56) K32 rfl A29 A51 rfl rfl
  subst e53
  show xw J ov 100 195 (372, [(4, .int x4), (3, .ref 167), (2, .ref 115), (1, .ref 0), (0, .ref 1000000)], [.int r30], hh31) _
  refine xi_pop (pc' := 373) kc_195_372 rfl rfl ?_
  refine xi_goto (pc' := 1501) kc_195_373 rfl ?_
  obtain ⟨v54, ev54⟩ : ∃ q : Int32, x4 + 6 = q := ⟨_, rfl⟩
  have zv54 : v54.toInt = (x4.toInt + 6) := by rw [← ev54]; exact (xz_add (X := x4.toInt) (Y := 6) rfl (by decide) (by omega) (by omega)).trans (by omega)
  refine xi_iinc (pc' := 1504) (x := x4) (v := v54) (lv' := [(4, .int v54), (3, .ref 167), (2, .ref 115), (1, .ref 0), (0, .ref 1000000)]) kc_195_1501 rfl rfl ev54 rfl (xm_lt ml_195 rfl) ?_
  refine xi_goto (pc' := 23) kc_195_1504 rfl ?_
  exact kk v54 hh31 (by omega) K33
set_option maxHeartbeats 8000000 in
theorem lc_4 {J : xe_J} {ov : List (List Int32)} (hJ : ∀ d mj as h, mj ≠ xe_loff → J d mj as h = none) (hov1 : ov[1]? = some [10, 0, 0, 0, 0, 0]) (hov2 : ov[2]? = some [99, 30, 50, 50, 1, 99999]) {xs : List Int32} (hov0 : ov[0]? = some xs) {Q : Option Value → xe_H → Prop} {h : xe_H} {x4 : Int32} (hi0 : 0 ≤ x4.toInt) (hi1 : x4.toInt + 6 ≤ xs.length) (hi2 : x4.toInt ≤ 3066) (T : xt h) (kk : ∀ (i : Int32) (h' : xe_H), i.toInt = x4.toInt + 6 → xk [(0, 9), (115, 1), (85, 8), (115, 56)] h h' → xw J ov 100 195 (23, [(4, .int i), (3, .ref 167), (2, .ref 115), (1, .ref 0), (0, .ref 1000000)], [], h') Q) : xw J ov 100 195 (376, [(4, .int x4), (3, .ref 167), (2, .ref 115), (1, .ref 0), (0, .ref 1000000)], [], h) Q := by
  have K : xk [(0, 9), (115, 1), (85, 8), (115, 56)] h h := xk_re T
  refine xi_aload_n (pc' := 377) (x := 0) kc_195_376 rfl rfl ?_
  refine xi_aload_n (pc' := 378) (x := 1000000) kc_195_377 rfl rfl ?_
  refine xi_iload (pc' := 380) (x := x4) kc_195_378 rfl rfl ?_
  refine xi_iconst (pc' := 381) (v := 1) kc_195_380 rfl rfl ?_
  obtain ⟨v1, ev1⟩ : ∃ q : Int32, x4 + 1 = q := ⟨_, rfl⟩
  have zv1 : v1.toInt = (x4.toInt + 1) := by rw [← ev1]; exact (xz_add (X := x4.toInt) (Y := 1) rfl (by decide) (by omega) (by omega)).trans (by omega)
  refine xi_iadd (pc' := 382) (v := v1) kc_195_381 rfl ev1 ?_
  obtain ⟨a2, ea2⟩ : ∃ q : Int32, xs.getD (Int32.toNatClampNeg v1) 0 = q := ⟨_, rfl⟩
  have ra2 := xc_rng a2
  refine xi_ialoadO (pc' := 383) (v := a2) kc_195_382 rfl (by decide) hov0 (xi_in (by omega) (by omega)) ea2 ?_
  obtain ⟨u3, u4, bu3, bu4, A5⟩ := xq_0 K.1
  refine xi_virtual (mj := 101) (as := [.int a2]) (st1 := []) (lv0 := [(0, .ref 0), (1, .int a2)]) kc_195_383 rfl rfl rfl rfl rfl A5 (Nat.le_of_ble_eq_true rfl) (hJ _ _ _ _ (by decide)) (xm_le ml_101 rfl) rfl ?_
  refine mt_101_0 hJ hov1 hov2 (d := 96) (x1 := a2) K.1 (fun r6 hh7 br6 K8 => ?_)
  have K9 := xk_tr K K8 rfl
  obtain ⟨u10, u11, bu10, bu11, A12⟩ := xq_0 K9.1
  have e13 : u4 = u11 := xk_eqi (q := 9) K8 rfl A5 A12 rfl rfl
  subst e13
  show xw J ov 100 195 (386, [(4, .int x4), (3, .ref 167), (2, .ref 115), (1, .ref 0), (0, .ref 1000000)], [.int r6], hh7) _
  refine xi_pop (pc' := 387) kc_195_386 rfl rfl ?_
  refine xi_aload_n (pc' := 388) (x := 115) kc_195_387 rfl rfl ?_
  refine xi_aload_n (pc' := 389) (x := 1000000) kc_195_388 rfl rfl ?_
  refine xi_iload (pc' := 391) (x := x4) kc_195_389 rfl rfl ?_
  refine xi_iconst (pc' := 392) (v := 1) kc_195_391 rfl rfl ?_
  refine xi_iadd (pc' := 393) (v := v1) kc_195_392 rfl ev1 ?_
  refine xi_ialoadO (pc' := 394) (v := a2) kc_195_393 rfl (by decide) hov0 (xi_in (by omega) (by omega)) ea2 ?_
  obtain ⟨u14, u15, u16, u17, u18, u19, u20, u21, u22, u23, u24, u25, u26, bu14, bu15, bu16, bu17, bu18, bu19, bu20, bu21, bu22, bu23, bu24, bu25, bu26, A27⟩ := xq_115 K9.1
  refine xi_virtual (mj := 21) (as := [.int a2]) (st1 := []) (lv0 := [(0, .ref 115), (1, .int a2)]) kc_195_394 rfl rfl rfl rfl rfl A27 (Nat.le_of_ble_eq_true rfl) (hJ _ _ _ _ (by decide)) (xm_le ml_21 rfl) rfl ?_
  refine mt_21_0 hJ hov1 hov2 (d := 97) (x1 := a2) K9.1 (fun r28 hh29 br28 K30 => ?_)
  have K31 := xk_tr K9 K30 rfl
  obtain ⟨u32, u33, bu32, bu33, A34⟩ := xq_0 K31.1
  have e35 : u4 = u33 := xk_eqi (q := 9) K30 rfl A12 A34 rfl rfl
  subst e35
  obtain ⟨u36, u37, u38, u39, u40, u41, u42, u43, u44, u45, u46, u47, u48, bu36, bu37, bu38, bu39, bu40, bu41, bu42, bu43, bu44, bu45, bu46, bu47, bu48, A49⟩ := xq_115 K31.1
  have e50 : u15 = u37 := xk_eqi (q := 1) K30 rfl A27 A49 rfl rfl
  subst e50
  have e51 : u25 = u47 := xk_eqi (q := 56) K30 rfl A27 A49 rfl rfl
  subst e51
  show xw J ov 100 195 (397, [(4, .int x4), (3, .ref 167), (2, .ref 115), (1, .ref 0), (0, .ref 1000000)], [.int r28], hh29) _
  refine xi_pop (pc' := 398) kc_195_397 rfl rfl ?_
  refine xi_goto (pc' := 1501) kc_195_398 rfl ?_
  obtain ⟨v52, ev52⟩ : ∃ q : Int32, x4 + 6 = q := ⟨_, rfl⟩
  have zv52 : v52.toInt = (x4.toInt + 6) := by rw [← ev52]; exact (xz_add (X := x4.toInt) (Y := 6) rfl (by decide) (by omega) (by omega)).trans (by omega)
  refine xi_iinc (pc' := 1504) (x := x4) (v := v52) (lv' := [(4, .int v52), (3, .ref 167), (2, .ref 115), (1, .ref 0), (0, .ref 1000000)]) kc_195_1501 rfl rfl ev52 rfl (xm_lt ml_195 rfl) ?_
  refine xi_goto (pc' := 23) kc_195_1504 rfl ?_
  exact kk v52 hh29 (by omega) K31
set_option maxHeartbeats 8000000 in
theorem lc_5 {J : xe_J} {ov : List (List Int32)} (hJ : ∀ d mj as h, mj ≠ xe_loff → J d mj as h = none) (hov1 : ov[1]? = some [10, 0, 0, 0, 0, 0]) (hov2 : ov[2]? = some [99, 30, 50, 50, 1, 99999]) {xs : List Int32} (hov0 : ov[0]? = some xs) {Q : Option Value → xe_H → Prop} {h : xe_H} {x4 : Int32} (hi0 : 0 ≤ x4.toInt) (hi1 : x4.toInt + 6 ≤ xs.length) (hi2 : x4.toInt ≤ 3066) (T : xt h) (kk : ∀ (i : Int32) (h' : xe_H), i.toInt = x4.toInt + 6 → xk [(0, 9), (115, 1), (85, 8), (115, 56)] h h' → xw J ov 100 195 (23, [(4, .int i), (3, .ref 167), (2, .ref 115), (1, .ref 0), (0, .ref 1000000)], [], h') Q) : xw J ov 100 195 (401, [(4, .int x4), (3, .ref 167), (2, .ref 115), (1, .ref 0), (0, .ref 1000000)], [], h) Q := by
  have K : xk [(0, 9), (115, 1), (85, 8), (115, 56)] h h := xk_re T
  refine xi_aload_n (pc' := 402) (x := 0) kc_195_401 rfl rfl ?_
  refine xi_aload_n (pc' := 403) (x := 1000000) kc_195_402 rfl rfl ?_
  refine xi_iload (pc' := 405) (x := x4) kc_195_403 rfl rfl ?_
  refine xi_iconst (pc' := 406) (v := 1) kc_195_405 rfl rfl ?_
  obtain ⟨v1, ev1⟩ : ∃ q : Int32, x4 + 1 = q := ⟨_, rfl⟩
  have zv1 : v1.toInt = (x4.toInt + 1) := by rw [← ev1]; exact (xz_add (X := x4.toInt) (Y := 1) rfl (by decide) (by omega) (by omega)).trans (by omega)
  refine xi_iadd (pc' := 407) (v := v1) kc_195_406 rfl ev1 ?_
  obtain ⟨a2, ea2⟩ : ∃ q : Int32, xs.getD (Int32.toNatClampNeg v1) 0 = q := ⟨_, rfl⟩
  have ra2 := xc_rng a2
  refine xi_ialoadO (pc' := 408) (v := a2) kc_195_407 rfl (by decide) hov0 (xi_in (by omega) (by omega)) ea2 ?_
  refine xi_aload_n (pc' := 409) (x := 1000000) kc_195_408 rfl rfl ?_
  refine xi_iload (pc' := 411) (x := x4) kc_195_409 rfl rfl ?_
  refine xi_iconst (pc' := 412) (v := 2) kc_195_411 rfl rfl ?_
  obtain ⟨v3, ev3⟩ : ∃ q : Int32, x4 + 2 = q := ⟨_, rfl⟩
  have zv3 : v3.toInt = (x4.toInt + 2) := by rw [← ev3]; exact (xz_add (X := x4.toInt) (Y := 2) rfl (by decide) (by omega) (by omega)).trans (by omega)
  refine xi_iadd (pc' := 413) (v := v3) kc_195_412 rfl ev3 ?_
  obtain ⟨a4, ea4⟩ : ∃ q : Int32, xs.getD (Int32.toNatClampNeg v3) 0 = q := ⟨_, rfl⟩
  have ra4 := xc_rng a4
  refine xi_ialoadO (pc' := 414) (v := a4) kc_195_413 rfl (by decide) hov0 (xi_in (by omega) (by omega)) ea4 ?_
  refine xi_aload_n (pc' := 415) (x := 1000000) kc_195_414 rfl rfl ?_
  refine xi_iload (pc' := 417) (x := x4) kc_195_415 rfl rfl ?_
  refine xi_iconst (pc' := 418) (v := 3) kc_195_417 rfl rfl ?_
  obtain ⟨v5, ev5⟩ : ∃ q : Int32, x4 + 3 = q := ⟨_, rfl⟩
  have zv5 : v5.toInt = (x4.toInt + 3) := by rw [← ev5]; exact (xz_add (X := x4.toInt) (Y := 3) rfl (by decide) (by omega) (by omega)).trans (by omega)
  refine xi_iadd (pc' := 419) (v := v5) kc_195_418 rfl ev5 ?_
  obtain ⟨a6, ea6⟩ : ∃ q : Int32, xs.getD (Int32.toNatClampNeg v5) 0 = q := ⟨_, rfl⟩
  have ra6 := xc_rng a6
  refine xi_ialoadO (pc' := 420) (v := a6) kc_195_419 rfl (by decide) hov0 (xi_in (by omega) (by omega)) ea6 ?_
  refine xi_aload_n (pc' := 421) (x := 1000000) kc_195_420 rfl rfl ?_
  refine xi_iload (pc' := 423) (x := x4) kc_195_421 rfl rfl ?_
  refine xi_iconst (pc' := 424) (v := 4) kc_195_423 rfl rfl ?_
  obtain ⟨v7, ev7⟩ : ∃ q : Int32, x4 + 4 = q := ⟨_, rfl⟩
  have zv7 : v7.toInt = (x4.toInt + 4) := by rw [← ev7]; exact (xz_add (X := x4.toInt) (Y := 4) rfl (by decide) (by omega) (by omega)).trans (by omega)
  refine xi_iadd (pc' := 425) (v := v7) kc_195_424 rfl ev7 ?_
  obtain ⟨a8, ea8⟩ : ∃ q : Int32, xs.getD (Int32.toNatClampNeg v7) 0 = q := ⟨_, rfl⟩
  have ra8 := xc_rng a8
  refine xi_ialoadO (pc' := 426) (v := a8) kc_195_425 rfl (by decide) hov0 (xi_in (by omega) (by omega)) ea8 ?_
  by_cases c9 : a8.toInt = 0
  · refine xi_ift (pc' := 433) kc_195_426 rfl (xc_eq_t (X := a8.toInt) (Y := 0) rfl (by decide) (by omega)) ?_
    refine xi_iconst (pc' := 434) (v := 0) kc_195_433 rfl rfl ?_
    obtain ⟨u10, u11, bu10, bu11, A12⟩ := xq_0 K.1
    refine xi_virtual (mj := 103) (as := [.int a2, .int a4, .int a6, .int 0]) (st1 := []) (lv0 := [(0, .ref 0), (1, .int a2), (2, .int a4), (3, .int a6), (4, .int 0)]) kc_195_434 rfl rfl rfl rfl rfl A12 (Nat.le_of_ble_eq_true rfl) (hJ _ _ _ _ (by decide)) (xm_le ml_103 rfl) rfl ?_
    have zc0 : (0 : Int32).toInt = 0 := by decide
    refine mt_103_0 hJ hov1 hov2 (d := 97) (x1 := a2) (x2 := a4) (x3 := a6) (x4 := 0) K.1 (by first | omega | decide) (fun r13 hh14 br13 K15 => ?_)
    have K16 := xk_tr K K15 rfl
    obtain ⟨u17, u18, bu17, bu18, A19⟩ := xq_0 K16.1
    have e20 : u11 = u18 := xk_eqi (q := 9) K15 rfl A12 A19 rfl rfl
    subst e20
    show xw J ov 100 195 (437, [(4, .int x4), (3, .ref 167), (2, .ref 115), (1, .ref 0), (0, .ref 1000000)], [.int r13], hh14) _
    refine xi_pop (pc' := 438) kc_195_437 rfl rfl ?_
    refine xi_aload_n (pc' := 439) (x := 115) kc_195_438 rfl rfl ?_
    refine xi_aload_n (pc' := 440) (x := 1000000) kc_195_439 rfl rfl ?_
    refine xi_iload (pc' := 442) (x := x4) kc_195_440 rfl rfl ?_
    refine xi_iconst (pc' := 443) (v := 1) kc_195_442 rfl rfl ?_
    refine xi_iadd (pc' := 444) (v := v1) kc_195_443 rfl ev1 ?_
    refine xi_ialoadO (pc' := 445) (v := a2) kc_195_444 rfl (by decide) hov0 (xi_in (by omega) (by omega)) ea2 ?_
    refine xi_aload_n (pc' := 446) (x := 1000000) kc_195_445 rfl rfl ?_
    refine xi_iload (pc' := 448) (x := x4) kc_195_446 rfl rfl ?_
    refine xi_iconst (pc' := 449) (v := 2) kc_195_448 rfl rfl ?_
    refine xi_iadd (pc' := 450) (v := v3) kc_195_449 rfl ev3 ?_
    refine xi_ialoadO (pc' := 451) (v := a4) kc_195_450 rfl (by decide) hov0 (xi_in (by omega) (by omega)) ea4 ?_
    refine xi_aload_n (pc' := 452) (x := 1000000) kc_195_451 rfl rfl ?_
    refine xi_iload (pc' := 454) (x := x4) kc_195_452 rfl rfl ?_
    refine xi_iconst (pc' := 455) (v := 3) kc_195_454 rfl rfl ?_
    refine xi_iadd (pc' := 456) (v := v5) kc_195_455 rfl ev5 ?_
    refine xi_ialoadO (pc' := 457) (v := a6) kc_195_456 rfl (by decide) hov0 (xi_in (by omega) (by omega)) ea6 ?_
    refine xi_aload_n (pc' := 458) (x := 1000000) kc_195_457 rfl rfl ?_
    refine xi_iload (pc' := 460) (x := x4) kc_195_458 rfl rfl ?_
    refine xi_iconst (pc' := 461) (v := 4) kc_195_460 rfl rfl ?_
    refine xi_iadd (pc' := 462) (v := v7) kc_195_461 rfl ev7 ?_
    refine xi_ialoadO (pc' := 463) (v := a8) kc_195_462 rfl (by decide) hov0 (xi_in (by omega) (by omega)) ea8 ?_
    refine xi_ift (pc' := 470) kc_195_463 rfl (xc_eq_t (X := a8.toInt) (Y := 0) rfl (by decide) (by omega)) ?_
    refine xi_iconst (pc' := 471) (v := 0) kc_195_470 rfl rfl ?_
    obtain ⟨u21, u22, u23, u24, u25, u26, u27, u28, u29, u30, u31, u32, u33, bu21, bu22, bu23, bu24, bu25, bu26, bu27, bu28, bu29, bu30, bu31, bu32, bu33, A34⟩ := xq_115 K16.1
    refine xi_virtual (mj := 23) (as := [.int a2, .int a4, .int a6, .int 0]) (st1 := []) (lv0 := [(0, .ref 115), (1, .int a2), (2, .int a4), (3, .int a6), (4, .int 0)]) kc_195_471 rfl rfl rfl rfl rfl A34 (Nat.le_of_ble_eq_true rfl) (hJ _ _ _ _ (by decide)) (xm_le ml_23 rfl) rfl ?_
    have zc0 : (0 : Int32).toInt = 0 := by decide
    refine mt_23_0 hJ hov1 hov2 (d := 97) (x1 := a2) (x2 := a4) (x3 := a6) (x4 := 0) K16.1 (by first | omega | decide) (fun r35 hh36 br35 K37 => ?_)
    have K38 := xk_tr K16 K37 rfl
    obtain ⟨u39, u40, bu39, bu40, A41⟩ := xq_0 K38.1
    have e42 : u11 = u40 := xk_eqi (q := 9) K37 rfl A19 A41 rfl rfl
    subst e42
    obtain ⟨u43, u44, u45, u46, u47, u48, u49, u50, u51, u52, u53, u54, u55, bu43, bu44, bu45, bu46, bu47, bu48, bu49, bu50, bu51, bu52, bu53, bu54, bu55, A56⟩ := xq_115 K38.1
    have e57 : u22 = u44 := xk_eqi (q := 1) K37 rfl A34 A56 rfl rfl
    subst e57
    have e58 : u32 = u54 := xk_eqi (q := 56) K37 rfl A34 A56 rfl rfl
    subst e58
    show xw J ov 100 195 (474, [(4, .int x4), (3, .ref 167), (2, .ref 115), (1, .ref 0), (0, .ref 1000000)], [.int r35], hh36) _
    refine xi_pop (pc' := 475) kc_195_474 rfl rfl ?_
    refine xi_goto (pc' := 1501) kc_195_475 rfl ?_
    obtain ⟨v59, ev59⟩ : ∃ q : Int32, x4 + 6 = q := ⟨_, rfl⟩
    have zv59 : v59.toInt = (x4.toInt + 6) := by rw [← ev59]; exact (xz_add (X := x4.toInt) (Y := 6) rfl (by decide) (by omega) (by omega)).trans (by omega)
    refine xi_iinc (pc' := 1504) (x := x4) (v := v59) (lv' := [(4, .int v59), (3, .ref 167), (2, .ref 115), (1, .ref 0), (0, .ref 1000000)]) kc_195_1501 rfl rfl ev59 rfl (xm_lt ml_195 rfl) ?_
    refine xi_goto (pc' := 23) kc_195_1504 rfl ?_
    exact kk v59 hh36 (by omega) K38
  · refine xi_iff (pc' := 429) kc_195_426 rfl (xc_eq_f (X := a8.toInt) (Y := 0) rfl (by decide) (by omega)) ?_
    refine xi_iconst (pc' := 430) (v := 1) kc_195_429 rfl rfl ?_
    refine xi_goto (pc' := 434) kc_195_430 rfl ?_
    obtain ⟨u60, u61, bu60, bu61, A62⟩ := xq_0 K.1
    refine xi_virtual (mj := 103) (as := [.int a2, .int a4, .int a6, .int 1]) (st1 := []) (lv0 := [(0, .ref 0), (1, .int a2), (2, .int a4), (3, .int a6), (4, .int 1)]) kc_195_434 rfl rfl rfl rfl rfl A62 (Nat.le_of_ble_eq_true rfl) (hJ _ _ _ _ (by decide)) (xm_le ml_103 rfl) rfl ?_
    have zc1 : (1 : Int32).toInt = 1 := by decide
    refine mt_103_0 hJ hov1 hov2 (d := 97) (x1 := a2) (x2 := a4) (x3 := a6) (x4 := 1) K.1 (by first | omega | decide) (fun r63 hh64 br63 K65 => ?_)
    have K66 := xk_tr K K65 rfl
    obtain ⟨u67, u68, bu67, bu68, A69⟩ := xq_0 K66.1
    have e70 : u61 = u68 := xk_eqi (q := 9) K65 rfl A62 A69 rfl rfl
    subst e70
    show xw J ov 100 195 (437, [(4, .int x4), (3, .ref 167), (2, .ref 115), (1, .ref 0), (0, .ref 1000000)], [.int r63], hh64) _
    refine xi_pop (pc' := 438) kc_195_437 rfl rfl ?_
    refine xi_aload_n (pc' := 439) (x := 115) kc_195_438 rfl rfl ?_
    refine xi_aload_n (pc' := 440) (x := 1000000) kc_195_439 rfl rfl ?_
    refine xi_iload (pc' := 442) (x := x4) kc_195_440 rfl rfl ?_
    refine xi_iconst (pc' := 443) (v := 1) kc_195_442 rfl rfl ?_
    refine xi_iadd (pc' := 444) (v := v1) kc_195_443 rfl ev1 ?_
    refine xi_ialoadO (pc' := 445) (v := a2) kc_195_444 rfl (by decide) hov0 (xi_in (by omega) (by omega)) ea2 ?_
    refine xi_aload_n (pc' := 446) (x := 1000000) kc_195_445 rfl rfl ?_
    refine xi_iload (pc' := 448) (x := x4) kc_195_446 rfl rfl ?_
    refine xi_iconst (pc' := 449) (v := 2) kc_195_448 rfl rfl ?_
    refine xi_iadd (pc' := 450) (v := v3) kc_195_449 rfl ev3 ?_
    refine xi_ialoadO (pc' := 451) (v := a4) kc_195_450 rfl (by decide) hov0 (xi_in (by omega) (by omega)) ea4 ?_
    refine xi_aload_n (pc' := 452) (x := 1000000) kc_195_451 rfl rfl ?_
    refine xi_iload (pc' := 454) (x := x4) kc_195_452 rfl rfl ?_
    refine xi_iconst (pc' := 455) (v := 3) kc_195_454 rfl rfl ?_
    refine xi_iadd (pc' := 456) (v := v5) kc_195_455 rfl ev5 ?_
    refine xi_ialoadO (pc' := 457) (v := a6) kc_195_456 rfl (by decide) hov0 (xi_in (by omega) (by omega)) ea6 ?_
    refine xi_aload_n (pc' := 458) (x := 1000000) kc_195_457 rfl rfl ?_
    refine xi_iload (pc' := 460) (x := x4) kc_195_458 rfl rfl ?_
    refine xi_iconst (pc' := 461) (v := 4) kc_195_460 rfl rfl ?_
    refine xi_iadd (pc' := 462) (v := v7) kc_195_461 rfl ev7 ?_
    refine xi_ialoadO (pc' := 463) (v := a8) kc_195_462 rfl (by decide) hov0 (xi_in (by omega) (by omega)) ea8 ?_
    refine xi_iff (pc' := 466) kc_195_463 rfl (xc_eq_f (X := a8.toInt) (Y := 0) rfl (by decide) (by omega)) ?_
    refine xi_iconst (pc' := 467) (v := 1) kc_195_466 rfl rfl ?_
    refine xi_goto (pc' := 471) kc_195_467 rfl ?_
    obtain ⟨u71, u72, u73, u74, u75, u76, u77, u78, u79, u80, u81, u82, u83, bu71, bu72, bu73, bu74, bu75, bu76, bu77, bu78, bu79, bu80, bu81, bu82, bu83, A84⟩ := xq_115 K66.1
    refine xi_virtual (mj := 23) (as := [.int a2, .int a4, .int a6, .int 1]) (st1 := []) (lv0 := [(0, .ref 115), (1, .int a2), (2, .int a4), (3, .int a6), (4, .int 1)]) kc_195_471 rfl rfl rfl rfl rfl A84 (Nat.le_of_ble_eq_true rfl) (hJ _ _ _ _ (by decide)) (xm_le ml_23 rfl) rfl ?_
    have zc1 : (1 : Int32).toInt = 1 := by decide
    refine mt_23_0 hJ hov1 hov2 (d := 97) (x1 := a2) (x2 := a4) (x3 := a6) (x4 := 1) K66.1 (by first | omega | decide) (fun r85 hh86 br85 K87 => ?_)
    have K88 := xk_tr K66 K87 rfl
    obtain ⟨u89, u90, bu89, bu90, A91⟩ := xq_0 K88.1
    have e92 : u61 = u90 := xk_eqi (q := 9) K87 rfl A69 A91 rfl rfl
    subst e92
    obtain ⟨u93, u94, u95, u96, u97, u98, u99, u100, u101, u102, u103, u104, u105, bu93, bu94, bu95, bu96, bu97, bu98, bu99, bu100, bu101, bu102, bu103, bu104, bu105, A106⟩ := xq_115 K88.1
    have e107 : u72 = u94 := xk_eqi (q := 1) K87 rfl A84 A106 rfl rfl
    subst e107
    have e108 : u82 = u104 := xk_eqi (q := 56) K87 rfl A84 A106 rfl rfl
    subst e108
    show xw J ov 100 195 (474, [(4, .int x4), (3, .ref 167), (2, .ref 115), (1, .ref 0), (0, .ref 1000000)], [.int r85], hh86) _
    refine xi_pop (pc' := 475) kc_195_474 rfl rfl ?_
    refine xi_goto (pc' := 1501) kc_195_475 rfl ?_
    obtain ⟨v109, ev109⟩ : ∃ q : Int32, x4 + 6 = q := ⟨_, rfl⟩
    have zv109 : v109.toInt = (x4.toInt + 6) := by rw [← ev109]; exact (xz_add (X := x4.toInt) (Y := 6) rfl (by decide) (by omega) (by omega)).trans (by omega)
    refine xi_iinc (pc' := 1504) (x := x4) (v := v109) (lv' := [(4, .int v109), (3, .ref 167), (2, .ref 115), (1, .ref 0), (0, .ref 1000000)]) kc_195_1501 rfl rfl ev109 rfl (xm_lt ml_195 rfl) ?_
    refine xi_goto (pc' := 23) kc_195_1504 rfl ?_
    exact kk v109 hh86 (by omega) K88
set_option maxHeartbeats 8000000 in
theorem lc_6 {J : xe_J} {ov : List (List Int32)} (hJ : ∀ d mj as h, mj ≠ xe_loff → J d mj as h = none) (hov1 : ov[1]? = some [10, 0, 0, 0, 0, 0]) (hov2 : ov[2]? = some [99, 30, 50, 50, 1, 99999]) {xs : List Int32} (hov0 : ov[0]? = some xs) {Q : Option Value → xe_H → Prop} {h : xe_H} {x4 : Int32} (hi0 : 0 ≤ x4.toInt) (hi1 : x4.toInt + 6 ≤ xs.length) (hi2 : x4.toInt ≤ 3066) (T : xt h) (kk : ∀ (i : Int32) (h' : xe_H), i.toInt = x4.toInt + 6 → xk [(0, 9), (115, 1), (85, 8), (115, 56)] h h' → xw J ov 100 195 (23, [(4, .int i), (3, .ref 167), (2, .ref 115), (1, .ref 0), (0, .ref 1000000)], [], h') Q) : xw J ov 100 195 (478, [(4, .int x4), (3, .ref 167), (2, .ref 115), (1, .ref 0), (0, .ref 1000000)], [], h) Q := by
  have K : xk [(0, 9), (115, 1), (85, 8), (115, 56)] h h := xk_re T
  refine xi_aload_n (pc' := 479) (x := 0) kc_195_478 rfl rfl ?_
  refine xi_aload_n (pc' := 480) (x := 1000000) kc_195_479 rfl rfl ?_
  refine xi_iload (pc' := 482) (x := x4) kc_195_480 rfl rfl ?_
  refine xi_iconst (pc' := 483) (v := 1) kc_195_482 rfl rfl ?_
  obtain ⟨v1, ev1⟩ : ∃ q : Int32, x4 + 1 = q := ⟨_, rfl⟩
  have zv1 : v1.toInt = (x4.toInt + 1) := by rw [← ev1]; exact (xz_add (X := x4.toInt) (Y := 1) rfl (by decide) (by omega) (by omega)).trans (by omega)
  refine xi_iadd (pc' := 484) (v := v1) kc_195_483 rfl ev1 ?_
  obtain ⟨a2, ea2⟩ : ∃ q : Int32, xs.getD (Int32.toNatClampNeg v1) 0 = q := ⟨_, rfl⟩
  have ra2 := xc_rng a2
  refine xi_ialoadO (pc' := 485) (v := a2) kc_195_484 rfl (by decide) hov0 (xi_in (by omega) (by omega)) ea2 ?_
  refine xi_aload_n (pc' := 486) (x := 1000000) kc_195_485 rfl rfl ?_
  refine xi_iload (pc' := 488) (x := x4) kc_195_486 rfl rfl ?_
  refine xi_iconst (pc' := 489) (v := 2) kc_195_488 rfl rfl ?_
  obtain ⟨v3, ev3⟩ : ∃ q : Int32, x4 + 2 = q := ⟨_, rfl⟩
  have zv3 : v3.toInt = (x4.toInt + 2) := by rw [← ev3]; exact (xz_add (X := x4.toInt) (Y := 2) rfl (by decide) (by omega) (by omega)).trans (by omega)
  refine xi_iadd (pc' := 490) (v := v3) kc_195_489 rfl ev3 ?_
  obtain ⟨a4, ea4⟩ : ∃ q : Int32, xs.getD (Int32.toNatClampNeg v3) 0 = q := ⟨_, rfl⟩
  have ra4 := xc_rng a4
  refine xi_ialoadO (pc' := 491) (v := a4) kc_195_490 rfl (by decide) hov0 (xi_in (by omega) (by omega)) ea4 ?_
  obtain ⟨u5, u6, bu5, bu6, A7⟩ := xq_0 K.1
  refine xi_virtual (mj := 106) (as := [.int a2, .int a4]) (st1 := []) (lv0 := [(0, .ref 0), (1, .int a2), (2, .int a4)]) kc_195_491 rfl rfl rfl rfl rfl A7 (Nat.le_of_ble_eq_true rfl) (hJ _ _ _ _ (by decide)) (xm_le ml_106 rfl) rfl ?_
  refine mt_106_0 hJ hov1 hov2 (d := 95) (x1 := a2) (x2 := a4) K.1 (fun r8 hh9 K10 => ?_)
  have br8 := xc_rng r8
  have K11 := xk_tr K K10 rfl
  obtain ⟨u12, u13, bu12, bu13, A14⟩ := xq_0 K11.1
  have e15 : u6 = u13 := xk_eqi (q := 9) K10 rfl A7 A14 rfl rfl
  subst e15
  show xw J ov 100 195 (494, [(4, .int x4), (3, .ref 167), (2, .ref 115), (1, .ref 0), (0, .ref 1000000)], [.int r8], hh9) _
  refine xi_pop (pc' := 495) kc_195_494 rfl rfl ?_
  refine xi_aload_n (pc' := 496) (x := 115) kc_195_495 rfl rfl ?_
  refine xi_aload_n (pc' := 497) (x := 1000000) kc_195_496 rfl rfl ?_
  refine xi_iload (pc' := 499) (x := x4) kc_195_497 rfl rfl ?_
  refine xi_iconst (pc' := 500) (v := 1) kc_195_499 rfl rfl ?_
  refine xi_iadd (pc' := 501) (v := v1) kc_195_500 rfl ev1 ?_
  refine xi_ialoadO (pc' := 502) (v := a2) kc_195_501 rfl (by decide) hov0 (xi_in (by omega) (by omega)) ea2 ?_
  refine xi_aload_n (pc' := 503) (x := 1000000) kc_195_502 rfl rfl ?_
  refine xi_iload (pc' := 505) (x := x4) kc_195_503 rfl rfl ?_
  refine xi_iconst (pc' := 506) (v := 2) kc_195_505 rfl rfl ?_
  refine xi_iadd (pc' := 507) (v := v3) kc_195_506 rfl ev3 ?_
  refine xi_ialoadO (pc' := 508) (v := a4) kc_195_507 rfl (by decide) hov0 (xi_in (by omega) (by omega)) ea4 ?_
  obtain ⟨u16, u17, u18, u19, u20, u21, u22, u23, u24, u25, u26, u27, u28, bu16, bu17, bu18, bu19, bu20, bu21, bu22, bu23, bu24, bu25, bu26, bu27, bu28, A29⟩ := xq_115 K11.1
  refine xi_virtual (mj := 25) (as := [.int a2, .int a4]) (st1 := []) (lv0 := [(0, .ref 115), (1, .int a2), (2, .int a4)]) kc_195_508 rfl rfl rfl rfl rfl A29 (Nat.le_of_ble_eq_true rfl) (hJ _ _ _ _ (by decide)) (xm_le ml_25 rfl) rfl ?_
  refine mt_25_0 hJ hov1 hov2 (d := 96) (x1 := a2) (x2 := a4) K11.1 (fun r30 hh31 K32 => ?_)
  have br30 := xc_rng r30
  have K33 := xk_tr K11 K32 rfl
  obtain ⟨u34, u35, bu34, bu35, A36⟩ := xq_0 K33.1
  have e37 : u6 = u35 := xk_eqi (q := 9) K32 rfl A14 A36 rfl rfl
  subst e37
  obtain ⟨u38, u39, u40, u41, u42, u43, u44, u45, u46, u47, u48, u49, u50, bu38, bu39, bu40, bu41, bu42, bu43, bu44, bu45, bu46, bu47, bu48, bu49, bu50, A51⟩ := xq_115 K33.1
  have e52 : u17 = u39 := xk_eqi (q := 1) K32 rfl A29 A51 rfl rfl
  subst e52
  have e53 : u27 = u49 := xk_eqi (q := 56) K32 rfl A29 A51 rfl rfl
  subst e53
  show xw J ov 100 195 (511, [(4, .int x4), (3, .ref 167), (2, .ref 115), (1, .ref 0), (0, .ref 1000000)], [.int r30], hh31) _
  refine xi_pop (pc' := 512) kc_195_511 rfl rfl ?_
  refine xi_goto (pc' := 1501) kc_195_512 rfl ?_
  obtain ⟨v54, ev54⟩ : ∃ q : Int32, x4 + 6 = q := ⟨_, rfl⟩
  have zv54 : v54.toInt = (x4.toInt + 6) := by rw [← ev54]; exact (xz_add (X := x4.toInt) (Y := 6) rfl (by decide) (by omega) (by omega)).trans (by omega)
  refine xi_iinc (pc' := 1504) (x := x4) (v := v54) (lv' := [(4, .int v54), (3, .ref 167), (2, .ref 115), (1, .ref 0), (0, .ref 1000000)]) kc_195_1501 rfl rfl ev54 rfl (xm_lt ml_195 rfl) ?_
  refine xi_goto (pc' := 23) kc_195_1504 rfl ?_
  exact kk v54 hh31 (by omega) K33
set_option maxHeartbeats 8000000 in
theorem lc_7 {J : xe_J} {ov : List (List Int32)} (hJ : ∀ d mj as h, mj ≠ xe_loff → J d mj as h = none) (hov1 : ov[1]? = some [10, 0, 0, 0, 0, 0]) (hov2 : ov[2]? = some [99, 30, 50, 50, 1, 99999]) {xs : List Int32} (hov0 : ov[0]? = some xs) {Q : Option Value → xe_H → Prop} {h : xe_H} {x4 : Int32} (hi0 : 0 ≤ x4.toInt) (hi1 : x4.toInt + 6 ≤ xs.length) (hi2 : x4.toInt ≤ 3066) (T : xt h) (kk : ∀ (i : Int32) (h' : xe_H), i.toInt = x4.toInt + 6 → xk [(0, 9), (115, 1), (85, 8), (115, 56)] h h' → xw J ov 100 195 (23, [(4, .int i), (3, .ref 167), (2, .ref 115), (1, .ref 0), (0, .ref 1000000)], [], h') Q) : xw J ov 100 195 (515, [(4, .int x4), (3, .ref 167), (2, .ref 115), (1, .ref 0), (0, .ref 1000000)], [], h) Q := by
  have K : xk [(0, 9), (115, 1), (85, 8), (115, 56)] h h := xk_re T
  refine xi_aload_n (pc' := 516) (x := 0) kc_195_515 rfl rfl ?_
  refine xi_aload_n (pc' := 517) (x := 1000000) kc_195_516 rfl rfl ?_
  refine xi_iload (pc' := 519) (x := x4) kc_195_517 rfl rfl ?_
  refine xi_iconst (pc' := 520) (v := 1) kc_195_519 rfl rfl ?_
  obtain ⟨v1, ev1⟩ : ∃ q : Int32, x4 + 1 = q := ⟨_, rfl⟩
  have zv1 : v1.toInt = (x4.toInt + 1) := by rw [← ev1]; exact (xz_add (X := x4.toInt) (Y := 1) rfl (by decide) (by omega) (by omega)).trans (by omega)
  refine xi_iadd (pc' := 521) (v := v1) kc_195_520 rfl ev1 ?_
  obtain ⟨a2, ea2⟩ : ∃ q : Int32, xs.getD (Int32.toNatClampNeg v1) 0 = q := ⟨_, rfl⟩
  have ra2 := xc_rng a2
  refine xi_ialoadO (pc' := 522) (v := a2) kc_195_521 rfl (by decide) hov0 (xi_in (by omega) (by omega)) ea2 ?_
  obtain ⟨u3, u4, bu3, bu4, A5⟩ := xq_0 K.1
  refine xi_virtual (mj := 110) (as := [.int a2]) (st1 := []) (lv0 := [(0, .ref 0), (1, .int a2)]) kc_195_522 rfl rfl rfl rfl rfl A5 (Nat.le_of_ble_eq_true rfl) (hJ _ _ _ _ (by decide)) (xm_le ml_110 rfl) rfl ?_
  refine mt_110_0 hJ hov1 hov2 (d := 98) (x1 := a2) K.1 (fun r6 hh7 K8 => ?_)
  have br6 := xc_rng r6
  have K9 := xk_tr K K8 rfl
  obtain ⟨u10, u11, bu10, bu11, A12⟩ := xq_0 K9.1
  have e13 : u4 = u11 := xk_eqi (q := 9) K8 rfl A5 A12 rfl rfl
  subst e13
  show xw J ov 100 195 (525, [(4, .int x4), (3, .ref 167), (2, .ref 115), (1, .ref 0), (0, .ref 1000000)], [.int r6], hh7) _
  refine xi_pop (pc' := 526) kc_195_525 rfl rfl ?_
  refine xi_aload_n (pc' := 527) (x := 115) kc_195_526 rfl rfl ?_
  refine xi_aload_n (pc' := 528) (x := 1000000) kc_195_527 rfl rfl ?_
  refine xi_iload (pc' := 530) (x := x4) kc_195_528 rfl rfl ?_
  refine xi_iconst (pc' := 531) (v := 1) kc_195_530 rfl rfl ?_
  refine xi_iadd (pc' := 532) (v := v1) kc_195_531 rfl ev1 ?_
  refine xi_ialoadO (pc' := 533) (v := a2) kc_195_532 rfl (by decide) hov0 (xi_in (by omega) (by omega)) ea2 ?_
  obtain ⟨u14, u15, u16, u17, u18, u19, u20, u21, u22, u23, u24, u25, u26, bu14, bu15, bu16, bu17, bu18, bu19, bu20, bu21, bu22, bu23, bu24, bu25, bu26, A27⟩ := xq_115 K9.1
  refine xi_virtual (mj := 27) (as := [.int a2]) (st1 := []) (lv0 := [(0, .ref 115), (1, .int a2)]) kc_195_533 rfl rfl rfl rfl rfl A27 (Nat.le_of_ble_eq_true rfl) (hJ _ _ _ _ (by decide)) (xm_le ml_27 rfl) rfl ?_
  refine mt_27_0 hJ hov1 hov2 (d := 98) (x1 := a2) K9.1 (fun r28 hh29 K30 => ?_)
  have br28 := xc_rng r28
  have K31 := xk_tr K9 K30 rfl
  obtain ⟨u32, u33, bu32, bu33, A34⟩ := xq_0 K31.1
  have e35 : u4 = u33 := xk_eqi (q := 9) K30 rfl A12 A34 rfl rfl
  subst e35
  obtain ⟨u36, u37, u38, u39, u40, u41, u42, u43, u44, u45, u46, u47, u48, bu36, bu37, bu38, bu39, bu40, bu41, bu42, bu43, bu44, bu45, bu46, bu47, bu48, A49⟩ := xq_115 K31.1
  have e50 : u15 = u37 := xk_eqi (q := 1) K30 rfl A27 A49 rfl rfl
  subst e50
  have e51 : u25 = u47 := xk_eqi (q := 56) K30 rfl A27 A49 rfl rfl
  subst e51
  show xw J ov 100 195 (536, [(4, .int x4), (3, .ref 167), (2, .ref 115), (1, .ref 0), (0, .ref 1000000)], [.int r28], hh29) _
  refine xi_pop (pc' := 537) kc_195_536 rfl rfl ?_
  refine xi_goto (pc' := 1501) kc_195_537 rfl ?_
  obtain ⟨v52, ev52⟩ : ∃ q : Int32, x4 + 6 = q := ⟨_, rfl⟩
  have zv52 : v52.toInt = (x4.toInt + 6) := by rw [← ev52]; exact (xz_add (X := x4.toInt) (Y := 6) rfl (by decide) (by omega) (by omega)).trans (by omega)
  refine xi_iinc (pc' := 1504) (x := x4) (v := v52) (lv' := [(4, .int v52), (3, .ref 167), (2, .ref 115), (1, .ref 0), (0, .ref 1000000)]) kc_195_1501 rfl rfl ev52 rfl (xm_lt ml_195 rfl) ?_
  refine xi_goto (pc' := 23) kc_195_1504 rfl ?_
  exact kk v52 hh29 (by omega) K31
set_option maxHeartbeats 8000000 in
theorem lc_8 {J : xe_J} {ov : List (List Int32)} (hJ : ∀ d mj as h, mj ≠ xe_loff → J d mj as h = none) (hov1 : ov[1]? = some [10, 0, 0, 0, 0, 0]) (hov2 : ov[2]? = some [99, 30, 50, 50, 1, 99999]) {xs : List Int32} (hov0 : ov[0]? = some xs) {Q : Option Value → xe_H → Prop} {h : xe_H} {x4 : Int32} (hi0 : 0 ≤ x4.toInt) (hi1 : x4.toInt + 6 ≤ xs.length) (hi2 : x4.toInt ≤ 3066) (T : xt h) (kk : ∀ (i : Int32) (h' : xe_H), i.toInt = x4.toInt + 6 → xk [(0, 9), (115, 1), (85, 8), (115, 56)] h h' → xw J ov 100 195 (23, [(4, .int i), (3, .ref 167), (2, .ref 115), (1, .ref 0), (0, .ref 1000000)], [], h') Q) : xw J ov 100 195 (540, [(4, .int x4), (3, .ref 167), (2, .ref 115), (1, .ref 0), (0, .ref 1000000)], [], h) Q := by
  have K : xk [(0, 9), (115, 1), (85, 8), (115, 56)] h h := xk_re T
  refine xi_aload_n (pc' := 541) (x := 0) kc_195_540 rfl rfl ?_
  refine xi_aload_n (pc' := 542) (x := 1000000) kc_195_541 rfl rfl ?_
  refine xi_iload (pc' := 544) (x := x4) kc_195_542 rfl rfl ?_
  refine xi_iconst (pc' := 545) (v := 1) kc_195_544 rfl rfl ?_
  obtain ⟨v1, ev1⟩ : ∃ q : Int32, x4 + 1 = q := ⟨_, rfl⟩
  have zv1 : v1.toInt = (x4.toInt + 1) := by rw [← ev1]; exact (xz_add (X := x4.toInt) (Y := 1) rfl (by decide) (by omega) (by omega)).trans (by omega)
  refine xi_iadd (pc' := 546) (v := v1) kc_195_545 rfl ev1 ?_
  obtain ⟨a2, ea2⟩ : ∃ q : Int32, xs.getD (Int32.toNatClampNeg v1) 0 = q := ⟨_, rfl⟩
  have ra2 := xc_rng a2
  refine xi_ialoadO (pc' := 547) (v := a2) kc_195_546 rfl (by decide) hov0 (xi_in (by omega) (by omega)) ea2 ?_
  obtain ⟨u3, u4, bu3, bu4, A5⟩ := xq_0 K.1
  refine xi_virtual (mj := 111) (as := [.int a2]) (st1 := []) (lv0 := [(0, .ref 0), (1, .int a2)]) kc_195_547 rfl rfl rfl rfl rfl A5 (Nat.le_of_ble_eq_true rfl) (hJ _ _ _ _ (by decide)) (xm_le ml_111 rfl) rfl ?_
  refine mt_111_0 hJ hov1 hov2 (d := 98) (x1 := a2) K.1 (fun r6 hh7 K8 => ?_)
  have br6 := xc_rng r6
  have K9 := xk_tr K K8 rfl
  obtain ⟨u10, u11, bu10, bu11, A12⟩ := xq_0 K9.1
  have e13 : u4 = u11 := xk_eqi (q := 9) K8 rfl A5 A12 rfl rfl
  subst e13
  show xw J ov 100 195 (550, [(4, .int x4), (3, .ref 167), (2, .ref 115), (1, .ref 0), (0, .ref 1000000)], [.int r6], hh7) _
  refine xi_pop (pc' := 551) kc_195_550 rfl rfl ?_
  refine xi_aload_n (pc' := 552) (x := 115) kc_195_551 rfl rfl ?_
  refine xi_aload_n (pc' := 553) (x := 1000000) kc_195_552 rfl rfl ?_
  refine xi_iload (pc' := 555) (x := x4) kc_195_553 rfl rfl ?_
  refine xi_iconst (pc' := 556) (v := 1) kc_195_555 rfl rfl ?_
  refine xi_iadd (pc' := 557) (v := v1) kc_195_556 rfl ev1 ?_
  refine xi_ialoadO (pc' := 558) (v := a2) kc_195_557 rfl (by decide) hov0 (xi_in (by omega) (by omega)) ea2 ?_
  obtain ⟨u14, u15, u16, u17, u18, u19, u20, u21, u22, u23, u24, u25, u26, bu14, bu15, bu16, bu17, bu18, bu19, bu20, bu21, bu22, bu23, bu24, bu25, bu26, A27⟩ := xq_115 K9.1
  refine xi_virtual (mj := 28) (as := [.int a2]) (st1 := []) (lv0 := [(0, .ref 115), (1, .int a2)]) kc_195_558 rfl rfl rfl rfl rfl A27 (Nat.le_of_ble_eq_true rfl) (hJ _ _ _ _ (by decide)) (xm_le ml_28 rfl) rfl ?_
  refine mt_28_0 hJ hov1 hov2 (d := 97) (x1 := a2) K9.1 (fun r28 hh29 K30 => ?_)
  have br28 := xc_rng r28
  have K31 := xk_tr K9 K30 rfl
  obtain ⟨u32, u33, bu32, bu33, A34⟩ := xq_0 K31.1
  have e35 : u4 = u33 := xk_eqi (q := 9) K30 rfl A12 A34 rfl rfl
  subst e35
  obtain ⟨u36, u37, u38, u39, u40, u41, u42, u43, u44, u45, u46, u47, u48, bu36, bu37, bu38, bu39, bu40, bu41, bu42, bu43, bu44, bu45, bu46, bu47, bu48, A49⟩ := xq_115 K31.1
  have e50 : u15 = u37 := xk_eqi (q := 1) K30 rfl A27 A49 rfl rfl
  subst e50
  have e51 : u25 = u47 := xk_eqi (q := 56) K30 rfl A27 A49 rfl rfl
  subst e51
  show xw J ov 100 195 (561, [(4, .int x4), (3, .ref 167), (2, .ref 115), (1, .ref 0), (0, .ref 1000000)], [.int r28], hh29) _
  refine xi_pop (pc' := 562) kc_195_561 rfl rfl ?_
  refine xi_goto (pc' := 1501) kc_195_562 rfl ?_
  obtain ⟨v52, ev52⟩ : ∃ q : Int32, x4 + 6 = q := ⟨_, rfl⟩
  have zv52 : v52.toInt = (x4.toInt + 6) := by rw [← ev52]; exact (xz_add (X := x4.toInt) (Y := 6) rfl (by decide) (by omega) (by omega)).trans (by omega)
  refine xi_iinc (pc' := 1504) (x := x4) (v := v52) (lv' := [(4, .int v52), (3, .ref 167), (2, .ref 115), (1, .ref 0), (0, .ref 1000000)]) kc_195_1501 rfl rfl ev52 rfl (xm_lt ml_195 rfl) ?_
  refine xi_goto (pc' := 23) kc_195_1504 rfl ?_
  exact kk v52 hh29 (by omega) K31
set_option maxHeartbeats 8000000 in
theorem lc_9 {J : xe_J} {ov : List (List Int32)} (hJ : ∀ d mj as h, mj ≠ xe_loff → J d mj as h = none) (hov1 : ov[1]? = some [10, 0, 0, 0, 0, 0]) (hov2 : ov[2]? = some [99, 30, 50, 50, 1, 99999]) {xs : List Int32} (hov0 : ov[0]? = some xs) {Q : Option Value → xe_H → Prop} {h : xe_H} {x4 : Int32} (hi0 : 0 ≤ x4.toInt) (hi1 : x4.toInt + 6 ≤ xs.length) (hi2 : x4.toInt ≤ 3066) (T : xt h) (kk : ∀ (i : Int32) (h' : xe_H), i.toInt = x4.toInt + 6 → xk [(0, 9), (115, 1), (85, 8), (115, 56)] h h' → xw J ov 100 195 (23, [(4, .int i), (3, .ref 167), (2, .ref 115), (1, .ref 0), (0, .ref 1000000)], [], h') Q) : xw J ov 100 195 (565, [(4, .int x4), (3, .ref 167), (2, .ref 115), (1, .ref 0), (0, .ref 1000000)], [], h) Q := by
  have K : xk [(0, 9), (115, 1), (85, 8), (115, 56)] h h := xk_re T
  refine xi_aload_n (pc' := 566) (x := 0) kc_195_565 rfl rfl ?_
  refine xi_aload_n (pc' := 567) (x := 1000000) kc_195_566 rfl rfl ?_
  refine xi_iload (pc' := 569) (x := x4) kc_195_567 rfl rfl ?_
  refine xi_iconst (pc' := 570) (v := 1) kc_195_569 rfl rfl ?_
  obtain ⟨v1, ev1⟩ : ∃ q : Int32, x4 + 1 = q := ⟨_, rfl⟩
  have zv1 : v1.toInt = (x4.toInt + 1) := by rw [← ev1]; exact (xz_add (X := x4.toInt) (Y := 1) rfl (by decide) (by omega) (by omega)).trans (by omega)
  refine xi_iadd (pc' := 571) (v := v1) kc_195_570 rfl ev1 ?_
  obtain ⟨a2, ea2⟩ : ∃ q : Int32, xs.getD (Int32.toNatClampNeg v1) 0 = q := ⟨_, rfl⟩
  have ra2 := xc_rng a2
  refine xi_ialoadO (pc' := 572) (v := a2) kc_195_571 rfl (by decide) hov0 (xi_in (by omega) (by omega)) ea2 ?_
  obtain ⟨u3, u4, bu3, bu4, A5⟩ := xq_0 K.1
  refine xi_virtual (mj := 112) (as := [.int a2]) (st1 := []) (lv0 := [(0, .ref 0), (1, .int a2)]) kc_195_572 rfl rfl rfl rfl rfl A5 (Nat.le_of_ble_eq_true rfl) (hJ _ _ _ _ (by decide)) (xm_le ml_112 rfl) rfl ?_
  refine mt_112_0 hJ hov1 hov2 (d := 98) (x1 := a2) K.1 (fun r6 hh7 K8 => ?_)
  have br6 := xc_rng r6
  have K9 := xk_tr K K8 rfl
  obtain ⟨u10, u11, bu10, bu11, A12⟩ := xq_0 K9.1
  have e13 : u4 = u11 := xk_eqi (q := 9) K8 rfl A5 A12 rfl rfl
  subst e13
  show xw J ov 100 195 (575, [(4, .int x4), (3, .ref 167), (2, .ref 115), (1, .ref 0), (0, .ref 1000000)], [.int r6], hh7) _
  refine xi_pop (pc' := 576) kc_195_575 rfl rfl ?_
  refine xi_aload_n (pc' := 577) (x := 115) kc_195_576 rfl rfl ?_
  refine xi_aload_n (pc' := 578) (x := 1000000) kc_195_577 rfl rfl ?_
  refine xi_iload (pc' := 580) (x := x4) kc_195_578 rfl rfl ?_
  refine xi_iconst (pc' := 581) (v := 1) kc_195_580 rfl rfl ?_
  refine xi_iadd (pc' := 582) (v := v1) kc_195_581 rfl ev1 ?_
  refine xi_ialoadO (pc' := 583) (v := a2) kc_195_582 rfl (by decide) hov0 (xi_in (by omega) (by omega)) ea2 ?_
  obtain ⟨u14, u15, u16, u17, u18, u19, u20, u21, u22, u23, u24, u25, u26, bu14, bu15, bu16, bu17, bu18, bu19, bu20, bu21, bu22, bu23, bu24, bu25, bu26, A27⟩ := xq_115 K9.1
  refine xi_virtual (mj := 29) (as := [.int a2]) (st1 := []) (lv0 := [(0, .ref 115), (1, .int a2)]) kc_195_583 rfl rfl rfl rfl rfl A27 (Nat.le_of_ble_eq_true rfl) (hJ _ _ _ _ (by decide)) (xm_le ml_29 rfl) rfl ?_
  refine mt_29_0 hJ hov1 hov2 (d := 97) (x1 := a2) K9.1 (fun r28 hh29 K30 => ?_)
  have br28 := xc_rng r28
  have K31 := xk_tr K9 K30 rfl
  obtain ⟨u32, u33, bu32, bu33, A34⟩ := xq_0 K31.1
  have e35 : u4 = u33 := xk_eqi (q := 9) K30 rfl A12 A34 rfl rfl
  subst e35
  obtain ⟨u36, u37, u38, u39, u40, u41, u42, u43, u44, u45, u46, u47, u48, bu36, bu37, bu38, bu39, bu40, bu41, bu42, bu43, bu44, bu45, bu46, bu47, bu48, A49⟩ := xq_115 K31.1
  have e50 : u15 = u37 := xk_eqi (q := 1) K30 rfl A27 A49 rfl rfl
  subst e50
  have e51 : u25 = u47 := xk_eqi (q := 56) K30 rfl A27 A49 rfl rfl
  subst e51
  show xw J ov 100 195 (586, [(4, .int x4), (3, .ref 167), (2, .ref 115), (1, .ref 0), (0, .ref 1000000)], [.int r28], hh29) _
  refine xi_pop (pc' := 587) kc_195_586 rfl rfl ?_
  refine xi_goto (pc' := 1501) kc_195_587 rfl ?_
  obtain ⟨v52, ev52⟩ : ∃ q : Int32, x4 + 6 = q := ⟨_, rfl⟩
  have zv52 : v52.toInt = (x4.toInt + 6) := by rw [← ev52]; exact (xz_add (X := x4.toInt) (Y := 6) rfl (by decide) (by omega) (by omega)).trans (by omega)
  refine xi_iinc (pc' := 1504) (x := x4) (v := v52) (lv' := [(4, .int v52), (3, .ref 167), (2, .ref 115), (1, .ref 0), (0, .ref 1000000)]) kc_195_1501 rfl rfl ev52 rfl (xm_lt ml_195 rfl) ?_
  refine xi_goto (pc' := 23) kc_195_1504 rfl ?_
  exact kk v52 hh29 (by omega) K31
set_option maxHeartbeats 8000000 in
theorem lc_10 {J : xe_J} {ov : List (List Int32)} (hJ : ∀ d mj as h, mj ≠ xe_loff → J d mj as h = none) (hov1 : ov[1]? = some [10, 0, 0, 0, 0, 0]) (hov2 : ov[2]? = some [99, 30, 50, 50, 1, 99999]) {xs : List Int32} (hov0 : ov[0]? = some xs) {Q : Option Value → xe_H → Prop} {h : xe_H} {x4 : Int32} (hi0 : 0 ≤ x4.toInt) (hi1 : x4.toInt + 6 ≤ xs.length) (hi2 : x4.toInt ≤ 3066) (T : xt h) (kk : ∀ (i : Int32) (h' : xe_H), i.toInt = x4.toInt + 6 → xk [(0, 9), (115, 1), (85, 8), (115, 56)] h h' → xw J ov 100 195 (23, [(4, .int i), (3, .ref 167), (2, .ref 115), (1, .ref 0), (0, .ref 1000000)], [], h') Q) : xw J ov 100 195 (590, [(4, .int x4), (3, .ref 167), (2, .ref 115), (1, .ref 0), (0, .ref 1000000)], [], h) Q := by
  have K : xk [(0, 9), (115, 1), (85, 8), (115, 56)] h h := xk_re T
  refine xi_aload_n (pc' := 591) (x := 0) kc_195_590 rfl rfl ?_
  refine xi_aload_n (pc' := 592) (x := 1000000) kc_195_591 rfl rfl ?_
  refine xi_iload (pc' := 594) (x := x4) kc_195_592 rfl rfl ?_
  refine xi_iconst (pc' := 595) (v := 1) kc_195_594 rfl rfl ?_
  obtain ⟨v1, ev1⟩ : ∃ q : Int32, x4 + 1 = q := ⟨_, rfl⟩
  have zv1 : v1.toInt = (x4.toInt + 1) := by rw [← ev1]; exact (xz_add (X := x4.toInt) (Y := 1) rfl (by decide) (by omega) (by omega)).trans (by omega)
  refine xi_iadd (pc' := 596) (v := v1) kc_195_595 rfl ev1 ?_
  obtain ⟨a2, ea2⟩ : ∃ q : Int32, xs.getD (Int32.toNatClampNeg v1) 0 = q := ⟨_, rfl⟩
  have ra2 := xc_rng a2
  refine xi_ialoadO (pc' := 597) (v := a2) kc_195_596 rfl (by decide) hov0 (xi_in (by omega) (by omega)) ea2 ?_
  refine xi_aload_n (pc' := 598) (x := 1000000) kc_195_597 rfl rfl ?_
  refine xi_iload (pc' := 600) (x := x4) kc_195_598 rfl rfl ?_
  refine xi_iconst (pc' := 601) (v := 2) kc_195_600 rfl rfl ?_
  obtain ⟨v3, ev3⟩ : ∃ q : Int32, x4 + 2 = q := ⟨_, rfl⟩
  have zv3 : v3.toInt = (x4.toInt + 2) := by rw [← ev3]; exact (xz_add (X := x4.toInt) (Y := 2) rfl (by decide) (by omega) (by omega)).trans (by omega)
  refine xi_iadd (pc' := 602) (v := v3) kc_195_601 rfl ev3 ?_
  obtain ⟨a4, ea4⟩ : ∃ q : Int32, xs.getD (Int32.toNatClampNeg v3) 0 = q := ⟨_, rfl⟩
  have ra4 := xc_rng a4
  refine xi_ialoadO (pc' := 603) (v := a4) kc_195_602 rfl (by decide) hov0 (xi_in (by omega) (by omega)) ea4 ?_
  refine xi_aload_n (pc' := 604) (x := 1000000) kc_195_603 rfl rfl ?_
  refine xi_iload (pc' := 606) (x := x4) kc_195_604 rfl rfl ?_
  refine xi_iconst (pc' := 607) (v := 3) kc_195_606 rfl rfl ?_
  obtain ⟨v5, ev5⟩ : ∃ q : Int32, x4 + 3 = q := ⟨_, rfl⟩
  have zv5 : v5.toInt = (x4.toInt + 3) := by rw [← ev5]; exact (xz_add (X := x4.toInt) (Y := 3) rfl (by decide) (by omega) (by omega)).trans (by omega)
  refine xi_iadd (pc' := 608) (v := v5) kc_195_607 rfl ev5 ?_
  obtain ⟨a6, ea6⟩ : ∃ q : Int32, xs.getD (Int32.toNatClampNeg v5) 0 = q := ⟨_, rfl⟩
  have ra6 := xc_rng a6
  refine xi_ialoadO (pc' := 609) (v := a6) kc_195_608 rfl (by decide) hov0 (xi_in (by omega) (by omega)) ea6 ?_
  refine xi_aload_n (pc' := 610) (x := 1000000) kc_195_609 rfl rfl ?_
  refine xi_iload (pc' := 612) (x := x4) kc_195_610 rfl rfl ?_
  refine xi_iconst (pc' := 613) (v := 4) kc_195_612 rfl rfl ?_
  obtain ⟨v7, ev7⟩ : ∃ q : Int32, x4 + 4 = q := ⟨_, rfl⟩
  have zv7 : v7.toInt = (x4.toInt + 4) := by rw [← ev7]; exact (xz_add (X := x4.toInt) (Y := 4) rfl (by decide) (by omega) (by omega)).trans (by omega)
  refine xi_iadd (pc' := 614) (v := v7) kc_195_613 rfl ev7 ?_
  obtain ⟨a8, ea8⟩ : ∃ q : Int32, xs.getD (Int32.toNatClampNeg v7) 0 = q := ⟨_, rfl⟩
  have ra8 := xc_rng a8
  refine xi_ialoadO (pc' := 615) (v := a8) kc_195_614 rfl (by decide) hov0 (xi_in (by omega) (by omega)) ea8 ?_
  obtain ⟨u9, u10, bu9, bu10, A11⟩ := xq_0 K.1
  refine xi_virtual (mj := 113) (as := [.int a2, .int a4, .int a6, .int a8]) (st1 := []) (lv0 := [(0, .ref 0), (1, .int a2), (2, .int a4), (3, .int a6), (4, .int a8)]) kc_195_615 rfl rfl rfl rfl rfl A11 (Nat.le_of_ble_eq_true rfl) (hJ _ _ _ _ (by decide)) (xm_le ml_113 rfl) rfl ?_
  refine mt_113_0 hJ hov1 hov2 (d := 96) (x1 := a2) (x2 := a4) (x3 := a6) (x4 := a8) K.1 (fun r12 hh13 br12 K14 => ?_)
  have K15 := xk_tr K K14 rfl
  obtain ⟨u16, u17, bu16, bu17, A18⟩ := xq_0 K15.1
  have e19 : u10 = u17 := xk_eqi (q := 9) K14 rfl A11 A18 rfl rfl
  subst e19
  show xw J ov 100 195 (618, [(4, .int x4), (3, .ref 167), (2, .ref 115), (1, .ref 0), (0, .ref 1000000)], [.int r12], hh13) _
  refine xi_pop (pc' := 619) kc_195_618 rfl rfl ?_
  refine xi_aload_n (pc' := 620) (x := 115) kc_195_619 rfl rfl ?_
  refine xi_aload_n (pc' := 621) (x := 1000000) kc_195_620 rfl rfl ?_
  refine xi_iload (pc' := 623) (x := x4) kc_195_621 rfl rfl ?_
  refine xi_iconst (pc' := 624) (v := 1) kc_195_623 rfl rfl ?_
  refine xi_iadd (pc' := 625) (v := v1) kc_195_624 rfl ev1 ?_
  refine xi_ialoadO (pc' := 626) (v := a2) kc_195_625 rfl (by decide) hov0 (xi_in (by omega) (by omega)) ea2 ?_
  refine xi_aload_n (pc' := 627) (x := 1000000) kc_195_626 rfl rfl ?_
  refine xi_iload (pc' := 629) (x := x4) kc_195_627 rfl rfl ?_
  refine xi_iconst (pc' := 630) (v := 2) kc_195_629 rfl rfl ?_
  refine xi_iadd (pc' := 631) (v := v3) kc_195_630 rfl ev3 ?_
  refine xi_ialoadO (pc' := 632) (v := a4) kc_195_631 rfl (by decide) hov0 (xi_in (by omega) (by omega)) ea4 ?_
  refine xi_aload_n (pc' := 633) (x := 1000000) kc_195_632 rfl rfl ?_
  refine xi_iload (pc' := 635) (x := x4) kc_195_633 rfl rfl ?_
  refine xi_iconst (pc' := 636) (v := 3) kc_195_635 rfl rfl ?_
  refine xi_iadd (pc' := 637) (v := v5) kc_195_636 rfl ev5 ?_
  refine xi_ialoadO (pc' := 638) (v := a6) kc_195_637 rfl (by decide) hov0 (xi_in (by omega) (by omega)) ea6 ?_
  refine xi_aload_n (pc' := 639) (x := 1000000) kc_195_638 rfl rfl ?_
  refine xi_iload (pc' := 641) (x := x4) kc_195_639 rfl rfl ?_
  refine xi_iconst (pc' := 642) (v := 4) kc_195_641 rfl rfl ?_
  refine xi_iadd (pc' := 643) (v := v7) kc_195_642 rfl ev7 ?_
  refine xi_ialoadO (pc' := 644) (v := a8) kc_195_643 rfl (by decide) hov0 (xi_in (by omega) (by omega)) ea8 ?_
  obtain ⟨u20, u21, u22, u23, u24, u25, u26, u27, u28, u29, u30, u31, u32, bu20, bu21, bu22, bu23, bu24, bu25, bu26, bu27, bu28, bu29, bu30, bu31, bu32, A33⟩ := xq_115 K15.1
  refine xi_virtual (mj := 30) (as := [.int a2, .int a4, .int a6, .int a8]) (st1 := []) (lv0 := [(0, .ref 115), (1, .int a2), (2, .int a4), (3, .int a6), (4, .int a8)]) kc_195_644 rfl rfl rfl rfl rfl A33 (Nat.le_of_ble_eq_true rfl) (hJ _ _ _ _ (by decide)) (xm_le ml_30 rfl) rfl ?_
  refine mt_30_0 hJ hov1 hov2 (d := 96) (x1 := a2) (x2 := a4) (x3 := a6) (x4 := a8) K15.1 (fun r34 hh35 br34 K36 => ?_)
  have K37 := xk_tr K15 K36 rfl
  obtain ⟨u38, u39, bu38, bu39, A40⟩ := xq_0 K37.1
  have e41 : u10 = u39 := xk_eqi (q := 9) K36 rfl A18 A40 rfl rfl
  subst e41
  obtain ⟨u42, u43, u44, u45, u46, u47, u48, u49, u50, u51, u52, u53, u54, bu42, bu43, bu44, bu45, bu46, bu47, bu48, bu49, bu50, bu51, bu52, bu53, bu54, A55⟩ := xq_115 K37.1
  have e56 : u21 = u43 := xk_eqi (q := 1) K36 rfl A33 A55 rfl rfl
  subst e56
  have e57 : u31 = u53 := xk_eqi (q := 56) K36 rfl A33 A55 rfl rfl
  subst e57
  show xw J ov 100 195 (647, [(4, .int x4), (3, .ref 167), (2, .ref 115), (1, .ref 0), (0, .ref 1000000)], [.int r34], hh35) _
  refine xi_pop (pc' := 648) kc_195_647 rfl rfl ?_
  refine xi_goto (pc' := 1501) kc_195_648 rfl ?_
  obtain ⟨v58, ev58⟩ : ∃ q : Int32, x4 + 6 = q := ⟨_, rfl⟩
  have zv58 : v58.toInt = (x4.toInt + 6) := by rw [← ev58]; exact (xz_add (X := x4.toInt) (Y := 6) rfl (by decide) (by omega) (by omega)).trans (by omega)
  refine xi_iinc (pc' := 1504) (x := x4) (v := v58) (lv' := [(4, .int v58), (3, .ref 167), (2, .ref 115), (1, .ref 0), (0, .ref 1000000)]) kc_195_1501 rfl rfl ev58 rfl (xm_lt ml_195 rfl) ?_
  refine xi_goto (pc' := 23) kc_195_1504 rfl ?_
  exact kk v58 hh35 (by omega) K37
set_option maxHeartbeats 8000000 in
theorem lc_11 {J : xe_J} {ov : List (List Int32)} (hJ : ∀ d mj as h, mj ≠ xe_loff → J d mj as h = none) (hov1 : ov[1]? = some [10, 0, 0, 0, 0, 0]) (hov2 : ov[2]? = some [99, 30, 50, 50, 1, 99999]) {xs : List Int32} (hov0 : ov[0]? = some xs) {Q : Option Value → xe_H → Prop} {h : xe_H} {x4 : Int32} (hi0 : 0 ≤ x4.toInt) (hi1 : x4.toInt + 6 ≤ xs.length) (hi2 : x4.toInt ≤ 3066) (T : xt h) (kk : ∀ (i : Int32) (h' : xe_H), i.toInt = x4.toInt + 6 → xk [(0, 9), (115, 1), (85, 8), (115, 56)] h h' → xw J ov 100 195 (23, [(4, .int i), (3, .ref 167), (2, .ref 115), (1, .ref 0), (0, .ref 1000000)], [], h') Q) : xw J ov 100 195 (651, [(4, .int x4), (3, .ref 167), (2, .ref 115), (1, .ref 0), (0, .ref 1000000)], [], h) Q := by
  have K : xk [(0, 9), (115, 1), (85, 8), (115, 56)] h h := xk_re T
  refine xi_aload_n (pc' := 652) (x := 0) kc_195_651 rfl rfl ?_
  refine xi_aload_n (pc' := 653) (x := 1000000) kc_195_652 rfl rfl ?_
  refine xi_iload (pc' := 655) (x := x4) kc_195_653 rfl rfl ?_
  refine xi_iconst (pc' := 656) (v := 1) kc_195_655 rfl rfl ?_
  obtain ⟨v1, ev1⟩ : ∃ q : Int32, x4 + 1 = q := ⟨_, rfl⟩
  have zv1 : v1.toInt = (x4.toInt + 1) := by rw [← ev1]; exact (xz_add (X := x4.toInt) (Y := 1) rfl (by decide) (by omega) (by omega)).trans (by omega)
  refine xi_iadd (pc' := 657) (v := v1) kc_195_656 rfl ev1 ?_
  obtain ⟨a2, ea2⟩ : ∃ q : Int32, xs.getD (Int32.toNatClampNeg v1) 0 = q := ⟨_, rfl⟩
  have ra2 := xc_rng a2
  refine xi_ialoadO (pc' := 658) (v := a2) kc_195_657 rfl (by decide) hov0 (xi_in (by omega) (by omega)) ea2 ?_
  refine xi_aload_n (pc' := 659) (x := 1000000) kc_195_658 rfl rfl ?_
  refine xi_iload (pc' := 661) (x := x4) kc_195_659 rfl rfl ?_
  refine xi_iconst (pc' := 662) (v := 2) kc_195_661 rfl rfl ?_
  obtain ⟨v3, ev3⟩ : ∃ q : Int32, x4 + 2 = q := ⟨_, rfl⟩
  have zv3 : v3.toInt = (x4.toInt + 2) := by rw [← ev3]; exact (xz_add (X := x4.toInt) (Y := 2) rfl (by decide) (by omega) (by omega)).trans (by omega)
  refine xi_iadd (pc' := 663) (v := v3) kc_195_662 rfl ev3 ?_
  obtain ⟨a4, ea4⟩ : ∃ q : Int32, xs.getD (Int32.toNatClampNeg v3) 0 = q := ⟨_, rfl⟩
  have ra4 := xc_rng a4
  refine xi_ialoadO (pc' := 664) (v := a4) kc_195_663 rfl (by decide) hov0 (xi_in (by omega) (by omega)) ea4 ?_
  refine xi_aload_n (pc' := 665) (x := 1000000) kc_195_664 rfl rfl ?_
  refine xi_iload (pc' := 667) (x := x4) kc_195_665 rfl rfl ?_
  refine xi_iconst (pc' := 668) (v := 3) kc_195_667 rfl rfl ?_
  obtain ⟨v5, ev5⟩ : ∃ q : Int32, x4 + 3 = q := ⟨_, rfl⟩
  have zv5 : v5.toInt = (x4.toInt + 3) := by rw [← ev5]; exact (xz_add (X := x4.toInt) (Y := 3) rfl (by decide) (by omega) (by omega)).trans (by omega)
  refine xi_iadd (pc' := 669) (v := v5) kc_195_668 rfl ev5 ?_
  obtain ⟨a6, ea6⟩ : ∃ q : Int32, xs.getD (Int32.toNatClampNeg v5) 0 = q := ⟨_, rfl⟩
  have ra6 := xc_rng a6
  refine xi_ialoadO (pc' := 670) (v := a6) kc_195_669 rfl (by decide) hov0 (xi_in (by omega) (by omega)) ea6 ?_
  refine xi_aload_n (pc' := 671) (x := 1000000) kc_195_670 rfl rfl ?_
  refine xi_iload (pc' := 673) (x := x4) kc_195_671 rfl rfl ?_
  refine xi_iconst (pc' := 674) (v := 4) kc_195_673 rfl rfl ?_
  obtain ⟨v7, ev7⟩ : ∃ q : Int32, x4 + 4 = q := ⟨_, rfl⟩
  have zv7 : v7.toInt = (x4.toInt + 4) := by rw [← ev7]; exact (xz_add (X := x4.toInt) (Y := 4) rfl (by decide) (by omega) (by omega)).trans (by omega)
  refine xi_iadd (pc' := 675) (v := v7) kc_195_674 rfl ev7 ?_
  obtain ⟨a8, ea8⟩ : ∃ q : Int32, xs.getD (Int32.toNatClampNeg v7) 0 = q := ⟨_, rfl⟩
  have ra8 := xc_rng a8
  refine xi_ialoadO (pc' := 676) (v := a8) kc_195_675 rfl (by decide) hov0 (xi_in (by omega) (by omega)) ea8 ?_
  obtain ⟨u9, u10, bu9, bu10, A11⟩ := xq_0 K.1
  refine xi_virtual (mj := 116) (as := [.int a2, .int a4, .int a6, .int a8]) (st1 := []) (lv0 := [(0, .ref 0), (1, .int a2), (2, .int a4), (3, .int a6), (4, .int a8)]) kc_195_676 rfl rfl rfl rfl rfl A11 (Nat.le_of_ble_eq_true rfl) (hJ _ _ _ _ (by decide)) (xm_le ml_116 rfl) rfl ?_
  refine mt_116_0 hJ hov1 hov2 (d := 95) (x1 := a2) (x2 := a4) (x3 := a6) (x4 := a8) K.1 (fun r12 hh13 br12 K14 => ?_)
  have K15 := xk_tr K K14 rfl
  obtain ⟨u16, u17, bu16, bu17, A18⟩ := xq_0 K15.1
  have e19 : u10 = u17 := xk_eqi (q := 9) K14 rfl A11 A18 rfl rfl
  subst e19
  show xw J ov 100 195 (679, [(4, .int x4), (3, .ref 167), (2, .ref 115), (1, .ref 0), (0, .ref 1000000)], [.int r12], hh13) _
  refine xi_pop (pc' := 680) kc_195_679 rfl rfl ?_
  refine xi_aload_n (pc' := 681) (x := 115) kc_195_680 rfl rfl ?_
  refine xi_aload_n (pc' := 682) (x := 1000000) kc_195_681 rfl rfl ?_
  refine xi_iload (pc' := 684) (x := x4) kc_195_682 rfl rfl ?_
  refine xi_iconst (pc' := 685) (v := 1) kc_195_684 rfl rfl ?_
  refine xi_iadd (pc' := 686) (v := v1) kc_195_685 rfl ev1 ?_
  refine xi_ialoadO (pc' := 687) (v := a2) kc_195_686 rfl (by decide) hov0 (xi_in (by omega) (by omega)) ea2 ?_
  refine xi_aload_n (pc' := 688) (x := 1000000) kc_195_687 rfl rfl ?_
  refine xi_iload (pc' := 690) (x := x4) kc_195_688 rfl rfl ?_
  refine xi_iconst (pc' := 691) (v := 2) kc_195_690 rfl rfl ?_
  refine xi_iadd (pc' := 692) (v := v3) kc_195_691 rfl ev3 ?_
  refine xi_ialoadO (pc' := 693) (v := a4) kc_195_692 rfl (by decide) hov0 (xi_in (by omega) (by omega)) ea4 ?_
  refine xi_aload_n (pc' := 694) (x := 1000000) kc_195_693 rfl rfl ?_
  refine xi_iload (pc' := 696) (x := x4) kc_195_694 rfl rfl ?_
  refine xi_iconst (pc' := 697) (v := 3) kc_195_696 rfl rfl ?_
  refine xi_iadd (pc' := 698) (v := v5) kc_195_697 rfl ev5 ?_
  refine xi_ialoadO (pc' := 699) (v := a6) kc_195_698 rfl (by decide) hov0 (xi_in (by omega) (by omega)) ea6 ?_
  refine xi_aload_n (pc' := 700) (x := 1000000) kc_195_699 rfl rfl ?_
  refine xi_iload (pc' := 702) (x := x4) kc_195_700 rfl rfl ?_
  refine xi_iconst (pc' := 703) (v := 4) kc_195_702 rfl rfl ?_
  refine xi_iadd (pc' := 704) (v := v7) kc_195_703 rfl ev7 ?_
  refine xi_ialoadO (pc' := 705) (v := a8) kc_195_704 rfl (by decide) hov0 (xi_in (by omega) (by omega)) ea8 ?_
  obtain ⟨u20, u21, u22, u23, u24, u25, u26, u27, u28, u29, u30, u31, u32, bu20, bu21, bu22, bu23, bu24, bu25, bu26, bu27, bu28, bu29, bu30, bu31, bu32, A33⟩ := xq_115 K15.1
  refine xi_virtual (mj := 32) (as := [.int a2, .int a4, .int a6, .int a8]) (st1 := []) (lv0 := [(0, .ref 115), (1, .int a2), (2, .int a4), (3, .int a6), (4, .int a8)]) kc_195_705 rfl rfl rfl rfl rfl A33 (Nat.le_of_ble_eq_true rfl) (hJ _ _ _ _ (by decide)) (xm_le ml_32 rfl) rfl ?_
  refine mt_32_0 hJ hov1 hov2 (d := 96) (x1 := a2) (x2 := a4) (x3 := a6) (x4 := a8) K15.1 (fun r34 hh35 br34 K36 => ?_)
  have K37 := xk_tr K15 K36 rfl
  obtain ⟨u38, u39, bu38, bu39, A40⟩ := xq_0 K37.1
  have e41 : u10 = u39 := xk_eqi (q := 9) K36 rfl A18 A40 rfl rfl
  subst e41
  obtain ⟨u42, u43, u44, u45, u46, u47, u48, u49, u50, u51, u52, u53, u54, bu42, bu43, bu44, bu45, bu46, bu47, bu48, bu49, bu50, bu51, bu52, bu53, bu54, A55⟩ := xq_115 K37.1
  have e56 : u21 = u43 := xk_eqi (q := 1) K36 rfl A33 A55 rfl rfl
  subst e56
  have e57 : u31 = u53 := xk_eqi (q := 56) K36 rfl A33 A55 rfl rfl
  subst e57
  show xw J ov 100 195 (708, [(4, .int x4), (3, .ref 167), (2, .ref 115), (1, .ref 0), (0, .ref 1000000)], [.int r34], hh35) _
  refine xi_pop (pc' := 709) kc_195_708 rfl rfl ?_
  refine xi_goto (pc' := 1501) kc_195_709 rfl ?_
  obtain ⟨v58, ev58⟩ : ∃ q : Int32, x4 + 6 = q := ⟨_, rfl⟩
  have zv58 : v58.toInt = (x4.toInt + 6) := by rw [← ev58]; exact (xz_add (X := x4.toInt) (Y := 6) rfl (by decide) (by omega) (by omega)).trans (by omega)
  refine xi_iinc (pc' := 1504) (x := x4) (v := v58) (lv' := [(4, .int v58), (3, .ref 167), (2, .ref 115), (1, .ref 0), (0, .ref 1000000)]) kc_195_1501 rfl rfl ev58 rfl (xm_lt ml_195 rfl) ?_
  refine xi_goto (pc' := 23) kc_195_1504 rfl ?_
  exact kk v58 hh35 (by omega) K37
set_option maxHeartbeats 8000000 in
theorem lc_12 {J : xe_J} {ov : List (List Int32)} (hJ : ∀ d mj as h, mj ≠ xe_loff → J d mj as h = none) (hov1 : ov[1]? = some [10, 0, 0, 0, 0, 0]) (hov2 : ov[2]? = some [99, 30, 50, 50, 1, 99999]) {xs : List Int32} (hov0 : ov[0]? = some xs) {Q : Option Value → xe_H → Prop} {h : xe_H} {x4 : Int32} (hi0 : 0 ≤ x4.toInt) (hi1 : x4.toInt + 6 ≤ xs.length) (hi2 : x4.toInt ≤ 3066) (T : xt h) (kk : ∀ (i : Int32) (h' : xe_H), i.toInt = x4.toInt + 6 → xk [(0, 9), (115, 1), (85, 8), (115, 56)] h h' → xw J ov 100 195 (23, [(4, .int i), (3, .ref 167), (2, .ref 115), (1, .ref 0), (0, .ref 1000000)], [], h') Q) : xw J ov 100 195 (712, [(4, .int x4), (3, .ref 167), (2, .ref 115), (1, .ref 0), (0, .ref 1000000)], [], h) Q := by
  have K : xk [(0, 9), (115, 1), (85, 8), (115, 56)] h h := xk_re T
  refine xi_aload_n (pc' := 713) (x := 0) kc_195_712 rfl rfl ?_
  refine xi_aload_n (pc' := 714) (x := 1000000) kc_195_713 rfl rfl ?_
  refine xi_iload (pc' := 716) (x := x4) kc_195_714 rfl rfl ?_
  refine xi_iconst (pc' := 717) (v := 1) kc_195_716 rfl rfl ?_
  obtain ⟨v1, ev1⟩ : ∃ q : Int32, x4 + 1 = q := ⟨_, rfl⟩
  have zv1 : v1.toInt = (x4.toInt + 1) := by rw [← ev1]; exact (xz_add (X := x4.toInt) (Y := 1) rfl (by decide) (by omega) (by omega)).trans (by omega)
  refine xi_iadd (pc' := 718) (v := v1) kc_195_717 rfl ev1 ?_
  obtain ⟨a2, ea2⟩ : ∃ q : Int32, xs.getD (Int32.toNatClampNeg v1) 0 = q := ⟨_, rfl⟩
  have ra2 := xc_rng a2
  refine xi_ialoadO (pc' := 719) (v := a2) kc_195_718 rfl (by decide) hov0 (xi_in (by omega) (by omega)) ea2 ?_
  refine xi_aload_n (pc' := 720) (x := 1000000) kc_195_719 rfl rfl ?_
  refine xi_iload (pc' := 722) (x := x4) kc_195_720 rfl rfl ?_
  refine xi_iconst (pc' := 723) (v := 2) kc_195_722 rfl rfl ?_
  obtain ⟨v3, ev3⟩ : ∃ q : Int32, x4 + 2 = q := ⟨_, rfl⟩
  have zv3 : v3.toInt = (x4.toInt + 2) := by rw [← ev3]; exact (xz_add (X := x4.toInt) (Y := 2) rfl (by decide) (by omega) (by omega)).trans (by omega)
  refine xi_iadd (pc' := 724) (v := v3) kc_195_723 rfl ev3 ?_
  obtain ⟨a4, ea4⟩ : ∃ q : Int32, xs.getD (Int32.toNatClampNeg v3) 0 = q := ⟨_, rfl⟩
  have ra4 := xc_rng a4
  refine xi_ialoadO (pc' := 725) (v := a4) kc_195_724 rfl (by decide) hov0 (xi_in (by omega) (by omega)) ea4 ?_
  by_cases c5 : a4.toInt = 0
  · refine xi_ift (pc' := 732) kc_195_725 rfl (xc_eq_t (X := a4.toInt) (Y := 0) rfl (by decide) (by omega)) ?_
    refine xi_iconst (pc' := 733) (v := 0) kc_195_732 rfl rfl ?_
    obtain ⟨u6, u7, bu6, bu7, A8⟩ := xq_0 K.1
    refine xi_virtual (mj := 120) (as := [.int a2, .int 0]) (st1 := []) (lv0 := [(0, .ref 0), (1, .int a2), (2, .int 0)]) kc_195_733 rfl rfl rfl rfl rfl A8 (Nat.le_of_ble_eq_true rfl) (hJ _ _ _ _ (by decide)) (xm_le ml_120 rfl) rfl ?_
    have zc0 : (0 : Int32).toInt = 0 := by decide
    refine mt_120_0 hJ hov1 hov2 (d := 98) (x1 := a2) (x2 := 0) K.1 (by first | omega | decide) (fun r9 hh10 br9 K11 => ?_)
    have K12 := xk_tr K K11 rfl
    obtain ⟨u13, u14, bu13, bu14, A15⟩ := xq_0 K12.1
    have e16 : u7 = u14 := xk_eqi (q := 9) K11 rfl A8 A15 rfl rfl
    subst e16
    show xw J ov 100 195 (736, [(4, .int x4), (3, .ref 167), (2, .ref 115), (1, .ref 0), (0, .ref 1000000)], [.int r9], hh10) _
    refine xi_pop (pc' := 737) kc_195_736 rfl rfl ?_
    refine xi_aload_n (pc' := 738) (x := 115) kc_195_737 rfl rfl ?_
    refine xi_aload_n (pc' := 739) (x := 1000000) kc_195_738 rfl rfl ?_
    refine xi_iload (pc' := 741) (x := x4) kc_195_739 rfl rfl ?_
    refine xi_iconst (pc' := 742) (v := 1) kc_195_741 rfl rfl ?_
    refine xi_iadd (pc' := 743) (v := v1) kc_195_742 rfl ev1 ?_
    refine xi_ialoadO (pc' := 744) (v := a2) kc_195_743 rfl (by decide) hov0 (xi_in (by omega) (by omega)) ea2 ?_
    refine xi_aload_n (pc' := 745) (x := 1000000) kc_195_744 rfl rfl ?_
    refine xi_iload (pc' := 747) (x := x4) kc_195_745 rfl rfl ?_
    refine xi_iconst (pc' := 748) (v := 2) kc_195_747 rfl rfl ?_
    refine xi_iadd (pc' := 749) (v := v3) kc_195_748 rfl ev3 ?_
    refine xi_ialoadO (pc' := 750) (v := a4) kc_195_749 rfl (by decide) hov0 (xi_in (by omega) (by omega)) ea4 ?_
    refine xi_ift (pc' := 757) kc_195_750 rfl (xc_eq_t (X := a4.toInt) (Y := 0) rfl (by decide) (by omega)) ?_
    refine xi_iconst (pc' := 758) (v := 0) kc_195_757 rfl rfl ?_
    obtain ⟨u17, u18, u19, u20, u21, u22, u23, u24, u25, u26, u27, u28, u29, bu17, bu18, bu19, bu20, bu21, bu22, bu23, bu24, bu25, bu26, bu27, bu28, bu29, A30⟩ := xq_115 K12.1
    refine xi_virtual (mj := 33) (as := [.int a2, .int 0]) (st1 := []) (lv0 := [(0, .ref 115), (1, .int a2), (2, .int 0)]) kc_195_758 rfl rfl rfl rfl rfl A30 (Nat.le_of_ble_eq_true rfl) (hJ _ _ _ _ (by decide)) (xm_le ml_33 rfl) rfl ?_
    have zc0 : (0 : Int32).toInt = 0 := by decide
    refine mt_33_0 hJ hov1 hov2 (d := 98) (x1 := a2) (x2 := 0) K12.1 (by first | omega | decide) (fun r31 hh32 br31 K33 => ?_)
    have K34 := xk_tr K12 K33 rfl
    obtain ⟨u35, u36, bu35, bu36, A37⟩ := xq_0 K34.1
    have e38 : u7 = u36 := xk_eqi (q := 9) K33 rfl A15 A37 rfl rfl
    subst e38
    obtain ⟨u39, u40, u41, u42, u43, u44, u45, u46, u47, u48, u49, u50, u51, bu39, bu40, bu41, bu42, bu43, bu44, bu45, bu46, bu47, bu48, bu49, bu50, bu51, A52⟩ := xq_115 K34.1
    have e53 : u18 = u40 := xk_eqi (q := 1) K33 rfl A30 A52 rfl rfl
    subst e53
    have e54 : u28 = u50 := xk_eqi (q := 56) K33 rfl A30 A52 rfl rfl
    subst e54
    show xw J ov 100 195 (761, [(4, .int x4), (3, .ref 167), (2, .ref 115), (1, .ref 0), (0, .ref 1000000)], [.int r31], hh32) _
    refine xi_pop (pc' := 762) kc_195_761 rfl rfl ?_
    refine xi_goto (pc' := 1501) kc_195_762 rfl ?_
    obtain ⟨v55, ev55⟩ : ∃ q : Int32, x4 + 6 = q := ⟨_, rfl⟩
    have zv55 : v55.toInt = (x4.toInt + 6) := by rw [← ev55]; exact (xz_add (X := x4.toInt) (Y := 6) rfl (by decide) (by omega) (by omega)).trans (by omega)
    refine xi_iinc (pc' := 1504) (x := x4) (v := v55) (lv' := [(4, .int v55), (3, .ref 167), (2, .ref 115), (1, .ref 0), (0, .ref 1000000)]) kc_195_1501 rfl rfl ev55 rfl (xm_lt ml_195 rfl) ?_
    refine xi_goto (pc' := 23) kc_195_1504 rfl ?_
    exact kk v55 hh32 (by omega) K34
  · refine xi_iff (pc' := 728) kc_195_725 rfl (xc_eq_f (X := a4.toInt) (Y := 0) rfl (by decide) (by omega)) ?_
    refine xi_iconst (pc' := 729) (v := 1) kc_195_728 rfl rfl ?_
    refine xi_goto (pc' := 733) kc_195_729 rfl ?_
    obtain ⟨u56, u57, bu56, bu57, A58⟩ := xq_0 K.1
    refine xi_virtual (mj := 120) (as := [.int a2, .int 1]) (st1 := []) (lv0 := [(0, .ref 0), (1, .int a2), (2, .int 1)]) kc_195_733 rfl rfl rfl rfl rfl A58 (Nat.le_of_ble_eq_true rfl) (hJ _ _ _ _ (by decide)) (xm_le ml_120 rfl) rfl ?_
    have zc1 : (1 : Int32).toInt = 1 := by decide
    refine mt_120_0 hJ hov1 hov2 (d := 98) (x1 := a2) (x2 := 1) K.1 (by first | omega | decide) (fun r59 hh60 br59 K61 => ?_)
    have K62 := xk_tr K K61 rfl
    obtain ⟨u63, u64, bu63, bu64, A65⟩ := xq_0 K62.1
    have e66 : u57 = u64 := xk_eqi (q := 9) K61 rfl A58 A65 rfl rfl
    subst e66
    show xw J ov 100 195 (736, [(4, .int x4), (3, .ref 167), (2, .ref 115), (1, .ref 0), (0, .ref 1000000)], [.int r59], hh60) _
    refine xi_pop (pc' := 737) kc_195_736 rfl rfl ?_
    refine xi_aload_n (pc' := 738) (x := 115) kc_195_737 rfl rfl ?_
    refine xi_aload_n (pc' := 739) (x := 1000000) kc_195_738 rfl rfl ?_
    refine xi_iload (pc' := 741) (x := x4) kc_195_739 rfl rfl ?_
    refine xi_iconst (pc' := 742) (v := 1) kc_195_741 rfl rfl ?_
    refine xi_iadd (pc' := 743) (v := v1) kc_195_742 rfl ev1 ?_
    refine xi_ialoadO (pc' := 744) (v := a2) kc_195_743 rfl (by decide) hov0 (xi_in (by omega) (by omega)) ea2 ?_
    refine xi_aload_n (pc' := 745) (x := 1000000) kc_195_744 rfl rfl ?_
    refine xi_iload (pc' := 747) (x := x4) kc_195_745 rfl rfl ?_
    refine xi_iconst (pc' := 748) (v := 2) kc_195_747 rfl rfl ?_
    refine xi_iadd (pc' := 749) (v := v3) kc_195_748 rfl ev3 ?_
    refine xi_ialoadO (pc' := 750) (v := a4) kc_195_749 rfl (by decide) hov0 (xi_in (by omega) (by omega)) ea4 ?_
    refine xi_iff (pc' := 753) kc_195_750 rfl (xc_eq_f (X := a4.toInt) (Y := 0) rfl (by decide) (by omega)) ?_
    refine xi_iconst (pc' := 754) (v := 1) kc_195_753 rfl rfl ?_
    refine xi_goto (pc' := 758) kc_195_754 rfl ?_
    obtain ⟨u67, u68, u69, u70, u71, u72, u73, u74, u75, u76, u77, u78, u79, bu67, bu68, bu69, bu70, bu71, bu72, bu73, bu74, bu75, bu76, bu77, bu78, bu79, A80⟩ := xq_115 K62.1
    refine xi_virtual (mj := 33) (as := [.int a2, .int 1]) (st1 := []) (lv0 := [(0, .ref 115), (1, .int a2), (2, .int 1)]) kc_195_758 rfl rfl rfl rfl rfl A80 (Nat.le_of_ble_eq_true rfl) (hJ _ _ _ _ (by decide)) (xm_le ml_33 rfl) rfl ?_
    have zc1 : (1 : Int32).toInt = 1 := by decide
    refine mt_33_0 hJ hov1 hov2 (d := 98) (x1 := a2) (x2 := 1) K62.1 (by first | omega | decide) (fun r81 hh82 br81 K83 => ?_)
    have K84 := xk_tr K62 K83 rfl
    obtain ⟨u85, u86, bu85, bu86, A87⟩ := xq_0 K84.1
    have e88 : u57 = u86 := xk_eqi (q := 9) K83 rfl A65 A87 rfl rfl
    subst e88
    obtain ⟨u89, u90, u91, u92, u93, u94, u95, u96, u97, u98, u99, u100, u101, bu89, bu90, bu91, bu92, bu93, bu94, bu95, bu96, bu97, bu98, bu99, bu100, bu101, A102⟩ := xq_115 K84.1
    have e103 : u68 = u90 := xk_eqi (q := 1) K83 rfl A80 A102 rfl rfl
    subst e103
    have e104 : u78 = u100 := xk_eqi (q := 56) K83 rfl A80 A102 rfl rfl
    subst e104
    show xw J ov 100 195 (761, [(4, .int x4), (3, .ref 167), (2, .ref 115), (1, .ref 0), (0, .ref 1000000)], [.int r81], hh82) _
    refine xi_pop (pc' := 762) kc_195_761 rfl rfl ?_
    refine xi_goto (pc' := 1501) kc_195_762 rfl ?_
    obtain ⟨v105, ev105⟩ : ∃ q : Int32, x4 + 6 = q := ⟨_, rfl⟩
    have zv105 : v105.toInt = (x4.toInt + 6) := by rw [← ev105]; exact (xz_add (X := x4.toInt) (Y := 6) rfl (by decide) (by omega) (by omega)).trans (by omega)
    refine xi_iinc (pc' := 1504) (x := x4) (v := v105) (lv' := [(4, .int v105), (3, .ref 167), (2, .ref 115), (1, .ref 0), (0, .ref 1000000)]) kc_195_1501 rfl rfl ev105 rfl (xm_lt ml_195 rfl) ?_
    refine xi_goto (pc' := 23) kc_195_1504 rfl ?_
    exact kk v105 hh82 (by omega) K84
set_option maxHeartbeats 8000000 in
theorem lc_13 {J : xe_J} {ov : List (List Int32)} (hJ : ∀ d mj as h, mj ≠ xe_loff → J d mj as h = none) (hov1 : ov[1]? = some [10, 0, 0, 0, 0, 0]) (hov2 : ov[2]? = some [99, 30, 50, 50, 1, 99999]) {xs : List Int32} (hov0 : ov[0]? = some xs) {Q : Option Value → xe_H → Prop} {h : xe_H} {x4 : Int32} (hi0 : 0 ≤ x4.toInt) (hi1 : x4.toInt + 6 ≤ xs.length) (hi2 : x4.toInt ≤ 3066) (T : xt h) (I : xI h) (kk : ∀ (i : Int32) (h' : xe_H), i.toInt = x4.toInt + 6 → xk [] h h' → xI h' → xw J ov 100 195 (23, [(4, .int i), (3, .ref 167), (2, .ref 115), (1, .ref 0), (0, .ref 1000000)], [], h') Q) : xw J ov 100 195 (765, [(4, .int x4), (3, .ref 167), (2, .ref 115), (1, .ref 0), (0, .ref 1000000)], [], h) Q := by
  have K : xk [] h h := xk_re T
  obtain ⟨u1, u2, bu1, bu2, A3⟩ := xq_0 K.1
  obtain ⟨u4, u5, u6, u7, u8, u9, u10, u11, u12, u13, u14, u15, u16, bu4, bu5, bu6, bu7, bu8, bu9, bu10, bu11, bu12, bu13, bu14, bu15, bu16, A17⟩ := xq_115 K.1
  have ee0 : u2 = u5 := xl_eqf I.1 A3 A17 rfl rfl
  subst ee0
  obtain ⟨u18, u19, bu18, bu19, A20⟩ := xq_85 K.1
  have ee1 : u19 = u15 := xl_eqf I.2 A20 A17 rfl rfl
  subst ee1
  refine xi_aload_n (pc' := 766) (x := 0) kc_195_765 rfl rfl ?_
  refine xi_aload_n (pc' := 767) (x := 1000000) kc_195_766 rfl rfl ?_
  refine xi_iload (pc' := 769) (x := x4) kc_195_767 rfl rfl ?_
  refine xi_iconst (pc' := 770) (v := 1) kc_195_769 rfl rfl ?_
  obtain ⟨v21, ev21⟩ : ∃ q : Int32, x4 + 1 = q := ⟨_, rfl⟩
  have zv21 : v21.toInt = (x4.toInt + 1) := by rw [← ev21]; exact (xz_add (X := x4.toInt) (Y := 1) rfl (by decide) (by omega) (by omega)).trans (by omega)
  refine xi_iadd (pc' := 771) (v := v21) kc_195_770 rfl ev21 ?_
  obtain ⟨a22, ea22⟩ : ∃ q : Int32, xs.getD (Int32.toNatClampNeg v21) 0 = q := ⟨_, rfl⟩
  have ra22 := xc_rng a22
  refine xi_ialoadO (pc' := 772) (v := a22) kc_195_771 rfl (by decide) hov0 (xi_in (by omega) (by omega)) ea22 ?_
  refine xi_virtual (mj := 121) (as := [.int a22]) (st1 := []) (lv0 := [(0, .ref 0), (1, .int a22)]) kc_195_772 rfl rfl rfl rfl rfl A3 (Nat.le_of_ble_eq_true rfl) (hJ _ _ _ _ (by decide)) (xm_le ml_121 rfl) rfl ?_
  refine mt_121_0 hJ hov1 hov2 (d := 93) (x1 := a22) (u0 := u2) K.1 (by omega) (fun v e => by have e2 := xl_val (u := u2) A3 rfl e; subst e2; omega) (fun r23 hh24 br23 o26 K25 => ?_)
  have K27 := xk_tr K K25 rfl
  obtain ⟨u28, u29, u30, u31, u32, u33, u34, u35, u36, u37, u38, u39, u40, bu28, bu29, bu30, bu31, bu32, bu33, bu34, bu35, bu36, bu37, bu38, bu39, bu40, A41⟩ := xq_115 K27.1
  have e42 : u2 = u29 := xk_eqi (q := 1) K25 rfl A17 A41 rfl rfl
  subst e42
  have e43 : u19 = u39 := xk_eqi (q := 56) K25 rfl A17 A41 rfl rfl
  subst e43
  obtain ⟨u44, u45, bu44, bu45, A46⟩ := xq_85 K27.1
  have e47 : u19 = u45 := xk_eqi (q := 8) K25 rfl A20 A46 rfl rfl
  subst e47
  obtain ⟨u48, u49, bu48, bu49, A50⟩ := xq_0 K27.1
  have o26' := o26 _ (xl_of A50 rfl)
  show xw J ov 100 195 (775, [(4, .int x4), (3, .ref 167), (2, .ref 115), (1, .ref 0), (0, .ref 1000000)], [.int r23], hh24) _
  refine xi_pop (pc' := 776) kc_195_775 rfl rfl ?_
  refine xi_aload_n (pc' := 777) (x := 115) kc_195_776 rfl rfl ?_
  refine xi_aload_n (pc' := 778) (x := 1000000) kc_195_777 rfl rfl ?_
  refine xi_iload (pc' := 780) (x := x4) kc_195_778 rfl rfl ?_
  refine xi_iconst (pc' := 781) (v := 1) kc_195_780 rfl rfl ?_
  refine xi_iadd (pc' := 782) (v := v21) kc_195_781 rfl ev21 ?_
  refine xi_ialoadO (pc' := 783) (v := a22) kc_195_782 rfl (by decide) hov0 (xi_in (by omega) (by omega)) ea22 ?_
  refine xi_virtual (mj := 34) (as := [.int a22]) (st1 := []) (lv0 := [(0, .ref 115), (1, .int a22)]) kc_195_783 rfl rfl rfl rfl rfl A41 (Nat.le_of_ble_eq_true rfl) (hJ _ _ _ _ (by decide)) (xm_le ml_34 rfl) rfl ?_
  refine mt_34_0 hJ hov1 hov2 (d := 93) (x1 := a22) (u0 := u2) K27.1 (by omega) (fun v e => by have e2 := xl_val (u := u2) A41 rfl e; subst e2; omega) (fun r51 hh52 br51 o54 K53 => ?_)
  have K55 := xk_tr K27 K53 rfl
  obtain ⟨u56, u57, u58, u59, u60, u61, u62, u63, u64, u65, u66, u67, u68, bu56, bu57, bu58, bu59, bu60, bu61, bu62, bu63, bu64, bu65, bu66, bu67, bu68, A69⟩ := xq_115 K55.1
  have e70 : u19 = u67 := xk_eqi (q := 56) K53 rfl A41 A69 rfl rfl
  subst e70
  obtain ⟨u71, u72, bu71, bu72, A73⟩ := xq_85 K55.1
  have e74 : u19 = u72 := xk_eqi (q := 8) K53 rfl A46 A73 rfl rfl
  subst e74
  obtain ⟨u75, u76, bu75, bu76, A77⟩ := xq_0 K55.1
  have e78 : u49 = u76 := xk_eqi (q := 9) K53 rfl A50 A77 rfl rfl
  subst e78
  have o54' := o54 _ (xl_of A69 rfl)
  show xw J ov 100 195 (786, [(4, .int x4), (3, .ref 167), (2, .ref 115), (1, .ref 0), (0, .ref 1000000)], [.int r51], hh52) _
  refine xi_pop (pc' := 787) kc_195_786 rfl rfl ?_
  refine xi_goto (pc' := 1501) kc_195_787 rfl ?_
  obtain ⟨v79, ev79⟩ : ∃ q : Int32, x4 + 6 = q := ⟨_, rfl⟩
  have zv79 : v79.toInt = (x4.toInt + 6) := by rw [← ev79]; exact (xz_add (X := x4.toInt) (Y := 6) rfl (by decide) (by omega) (by omega)).trans (by omega)
  refine xi_iinc (pc' := 1504) (x := x4) (v := v79) (lv' := [(4, .int v79), (3, .ref 167), (2, .ref 115), (1, .ref 0), (0, .ref 1000000)]) kc_195_1501 rfl rfl ev79 rfl (xm_lt ml_195 rfl) ?_
  refine xi_goto (pc' := 23) kc_195_1504 rfl ?_
  exact kk v79 hh52 (by omega) K55 ⟨((xl_of A77 rfl).trans ((congrArg (fun q : Int32 => some (Sum.inl (Value.int q))) (xc_of (by omega) : (u49 : Int32) = u57)).trans (xl_of A69 rfl).symm)), ((xl_of A73 rfl).trans (xl_of A69 rfl).symm)⟩
set_option maxHeartbeats 8000000 in
theorem lc_14 {J : xe_J} {ov : List (List Int32)} (hJ : ∀ d mj as h, mj ≠ xe_loff → J d mj as h = none) (hov1 : ov[1]? = some [10, 0, 0, 0, 0, 0]) (hov2 : ov[2]? = some [99, 30, 50, 50, 1, 99999]) {xs : List Int32} (hov0 : ov[0]? = some xs) (hoff : ∀ (v : Int32) (h : xe_H), xt h → h.length < xe_o → ∃ (r : Int32) (h' : xe_H), J 99 194 [.ref 0, .int v, .ref 167] h = some (some (.int r), h') ∧ xt h' ∧ (∀ l : Nat × Nat, List.elem l [(0, 9), (115, 1), (85, 8), (115, 56)] = true → xl h' l = xl h l) ∧ h'.length ≤ h.length + 1 ∧ xe_sz h' ≤ xe_sz h + 6) {Q : Option Value → xe_H → Prop} {h : xe_H} {x4 : Int32} (hi0 : 0 ≤ x4.toInt) (hi1 : x4.toInt + 6 ≤ xs.length) (hi2 : x4.toInt ≤ 3066) (T : xt h) (hn : h.length < xe_o) (kk : ∀ (i : Int32) (h' : xe_H), i.toInt = x4.toInt + 6 → xt h' → (∀ l : Nat × Nat, List.elem l [(0, 9), (115, 1), (85, 8), (115, 56)] = true → xl h' l = xl h l) → h'.length ≤ h.length + 1 → xe_sz h' ≤ xe_sz h + 6 → xw J ov 100 195 (23, [(4, .int i), (3, .ref 167), (2, .ref 115), (1, .ref 0), (0, .ref 1000000)], [], h') Q) : xw J ov 100 195 (790, [(4, .int x4), (3, .ref 167), (2, .ref 115), (1, .ref 0), (0, .ref 1000000)], [], h) Q := by
  have K : xk [(0, 9), (115, 1), (85, 8), (115, 56)] h h := xk_re T
  refine xi_aload_n (pc' := 791) (x := 0) kc_195_790 rfl rfl ?_
  refine xi_aload_n (pc' := 792) (x := 1000000) kc_195_791 rfl rfl ?_
  refine xi_iload (pc' := 794) (x := x4) kc_195_792 rfl rfl ?_
  refine xi_iconst (pc' := 795) (v := 1) kc_195_794 rfl rfl ?_
  obtain ⟨v1, ev1⟩ : ∃ q : Int32, x4 + 1 = q := ⟨_, rfl⟩
  have zv1 : v1.toInt = (x4.toInt + 1) := by rw [← ev1]; exact (xz_add (X := x4.toInt) (Y := 1) rfl (by decide) (by omega) (by omega)).trans (by omega)
  refine xi_iadd (pc' := 796) (v := v1) kc_195_795 rfl ev1 ?_
  obtain ⟨a2, ea2⟩ : ∃ q : Int32, xs.getD (Int32.toNatClampNeg v1) 0 = q := ⟨_, rfl⟩
  have ra2 := xc_rng a2
  refine xi_ialoadO (pc' := 797) (v := a2) kc_195_796 rfl (by decide) hov0 (xi_in (by omega) (by omega)) ea2 ?_
  refine xi_aload_n (pc' := 798) (x := 167) kc_195_797 rfl rfl ?_
  obtain ⟨r9, h9, j9, T9, f9, l9, z9⟩ := hoff a2 h T hn
  refine xi_staticJ (mj := 194) (as := [.ref 0, .int a2, .ref 167]) (st1 := []) (r := some (.int r9)) (h' := h9) kc_195_798 rfl rfl (Nat.le_of_ble_eq_true rfl) rfl rfl (Nat.le_of_ble_eq_true rfl) j9 ?_
  have K9 : xk [(0, 9), (115, 1), (85, 8), (115, 56)] h9 h9 := xk_re T9
  have rr9 := xc_rng r9
  show xw J ov 100 195 (801, [(4, .int x4), (3, .ref 167), (2, .ref 115), (1, .ref 0), (0, .ref 1000000)], [.int r9], h9) _
  refine xi_istore (pc' := 803) (lv' := [(5, .int r9), (4, .int x4), (3, .ref 167), (2, .ref 115), (1, .ref 0), (0, .ref 1000000)]) kc_195_801 rfl rfl (xm_lt ml_195 rfl) ?_
  refine xi_aload_n (pc' := 804) (x := 115) kc_195_803 rfl rfl ?_
  refine xi_aload_n (pc' := 805) (x := 1000000) kc_195_804 rfl rfl ?_
  refine xi_iload (pc' := 807) (x := x4) kc_195_805 rfl rfl ?_
  refine xi_iconst (pc' := 808) (v := 1) kc_195_807 rfl rfl ?_
  refine xi_iadd (pc' := 809) (v := v1) kc_195_808 rfl ev1 ?_
  refine xi_ialoadO (pc' := 810) (v := a2) kc_195_809 rfl (by decide) hov0 (xi_in (by omega) (by omega)) ea2 ?_
  obtain ⟨u101, u102, u103, u104, u105, u106, u107, u108, u109, u110, u111, u112, u113, bu101, bu102, bu103, bu104, bu105, bu106, bu107, bu108, bu109, bu110, bu111, bu112, bu113, A114⟩ := xq_115 K9.1
  refine xi_virtual (mj := 41) (as := [.int a2]) (st1 := []) (lv0 := [(0, .ref 115), (1, .int a2)]) kc_195_810 rfl rfl rfl rfl rfl A114 (Nat.le_of_ble_eq_true rfl) (hJ _ _ _ _ (by decide)) (xm_le ml_41 rfl) rfl ?_
  refine mt_41_0 hJ hov1 hov2 (d := 92) (x1 := a2) K9.1 (fun r115 hh116 K117 => ?_)
  have K118 := xk_tr K9 K117 rfl
  obtain ⟨u119, u120, u121, u122, u123, u124, u125, u126, u127, u128, u129, u130, u131, bu119, bu120, bu121, bu122, bu123, bu124, bu125, bu126, bu127, bu128, bu129, bu130, bu131, A132⟩ := xq_115 K118.1
  have e133 : u102 = u120 := xk_eqi (q := 1) K117 rfl A114 A132 rfl rfl
  subst e133
  have e134 : u112 = u130 := xk_eqi (q := 56) K117 rfl A114 A132 rfl rfl
  subst e134
  show xw J ov 100 195 (813, [(5, .int r9), (4, .int x4), (3, .ref 167), (2, .ref 115), (1, .ref 0), (0, .ref 1000000)], [.long r115], hh116) _
  refine xi_lstore (pc' := 815) (lv' := [(6, .long r115), (5, .int r9), (4, .int x4), (3, .ref 167), (2, .ref 115), (1, .ref 0), (0, .ref 1000000)]) kc_195_813 rfl rfl (xm_lt ml_195 rfl) ?_
  refine xi_goto (pc' := 1501) kc_195_815 rfl ?_
  obtain ⟨v135, ev135⟩ : ∃ q : Int32, x4 + 6 = q := ⟨_, rfl⟩
  have zv135 : v135.toInt = (x4.toInt + 6) := by rw [← ev135]; exact (xz_add (X := x4.toInt) (Y := 6) rfl (by decide) (by omega) (by omega)).trans (by omega)
  refine xi_iinc (pc' := 1504) (x := x4) (v := v135) (lv' := [(4, .int v135), (6, .long r115), (5, .int r9), (3, .ref 167), (2, .ref 115), (1, .ref 0), (0, .ref 1000000)]) kc_195_1501 rfl rfl ev135 rfl (xm_lt ml_195 rfl) ?_
  refine xi_goto (pc' := 23) kc_195_1504 rfl ?_
  refine xw_lv (b := [(4, .int v135), (3, .ref 167), (2, .ref 115), (1, .ref 0), (0, .ref 1000000)]) (lvS_cons (lvS_cons (lvS_cons (lvS_cons (lvS_cons (lvS_nil (show ([4, 6, 5, 3, 2, 1, 0] : List Nat).Nodup by decide)) rfl) rfl) rfl) rfl) rfl) ?_
  exact kk v135 hh116 (by omega) K118.1 (fun l hl => (K118.2.1 l hl).trans (f9 l hl)) (by rw [K118.2.2.1]; exact l9) (by rw [K118.2.2.2]; exact z9)
set_option maxHeartbeats 8000000 in
theorem lc_15 {J : xe_J} {ov : List (List Int32)} (hJ : ∀ d mj as h, mj ≠ xe_loff → J d mj as h = none) (hov1 : ov[1]? = some [10, 0, 0, 0, 0, 0]) (hov2 : ov[2]? = some [99, 30, 50, 50, 1, 99999]) {xs : List Int32} (hov0 : ov[0]? = some xs) {Q : Option Value → xe_H → Prop} {h : xe_H} {x4 : Int32} (hi0 : 0 ≤ x4.toInt) (hi1 : x4.toInt + 6 ≤ xs.length) (hi2 : x4.toInt ≤ 3066) (T : xt h) (kk : ∀ (i : Int32) (h' : xe_H), i.toInt = x4.toInt + 6 → xk [(0, 9), (115, 1), (85, 8), (115, 56)] h h' → xw J ov 100 195 (23, [(4, .int i), (3, .ref 167), (2, .ref 115), (1, .ref 0), (0, .ref 1000000)], [], h') Q) : xw J ov 100 195 (818, [(4, .int x4), (3, .ref 167), (2, .ref 115), (1, .ref 0), (0, .ref 1000000)], [], h) Q := by
  have K : xk [(0, 9), (115, 1), (85, 8), (115, 56)] h h := xk_re T
  refine xi_aload_n (pc' := 819) (x := 0) kc_195_818 rfl rfl ?_
  refine xi_aload_n (pc' := 820) (x := 1000000) kc_195_819 rfl rfl ?_
  refine xi_iload (pc' := 822) (x := x4) kc_195_820 rfl rfl ?_
  refine xi_iconst (pc' := 823) (v := 1) kc_195_822 rfl rfl ?_
  obtain ⟨v1, ev1⟩ : ∃ q : Int32, x4 + 1 = q := ⟨_, rfl⟩
  have zv1 : v1.toInt = (x4.toInt + 1) := by rw [← ev1]; exact (xz_add (X := x4.toInt) (Y := 1) rfl (by decide) (by omega) (by omega)).trans (by omega)
  refine xi_iadd (pc' := 824) (v := v1) kc_195_823 rfl ev1 ?_
  obtain ⟨a2, ea2⟩ : ∃ q : Int32, xs.getD (Int32.toNatClampNeg v1) 0 = q := ⟨_, rfl⟩
  have ra2 := xc_rng a2
  refine xi_ialoadO (pc' := 825) (v := a2) kc_195_824 rfl (by decide) hov0 (xi_in (by omega) (by omega)) ea2 ?_
  refine xi_aload_n (pc' := 826) (x := 1000000) kc_195_825 rfl rfl ?_
  refine xi_iload (pc' := 828) (x := x4) kc_195_826 rfl rfl ?_
  refine xi_iconst (pc' := 829) (v := 2) kc_195_828 rfl rfl ?_
  obtain ⟨v3, ev3⟩ : ∃ q : Int32, x4 + 2 = q := ⟨_, rfl⟩
  have zv3 : v3.toInt = (x4.toInt + 2) := by rw [← ev3]; exact (xz_add (X := x4.toInt) (Y := 2) rfl (by decide) (by omega) (by omega)).trans (by omega)
  refine xi_iadd (pc' := 830) (v := v3) kc_195_829 rfl ev3 ?_
  obtain ⟨a4, ea4⟩ : ∃ q : Int32, xs.getD (Int32.toNatClampNeg v3) 0 = q := ⟨_, rfl⟩
  have ra4 := xc_rng a4
  refine xi_ialoadO (pc' := 831) (v := a4) kc_195_830 rfl (by decide) hov0 (xi_in (by omega) (by omega)) ea4 ?_
  obtain ⟨u5, u6, bu5, bu6, A7⟩ := xq_0 K.1
  refine xi_virtual (mj := 137) (as := [.int a2, .int a4]) (st1 := []) (lv0 := [(0, .ref 0), (1, .int a2), (2, .int a4)]) kc_195_831 rfl rfl rfl rfl rfl A7 (Nat.le_of_ble_eq_true rfl) (hJ _ _ _ _ (by decide)) (xm_le ml_137 rfl) rfl ?_
  refine mt_137_0 hJ hov1 hov2 (d := 93) (x1 := a2) (x2 := a4) K.1 (fun r8 hh9 K10 => ?_)
  have br8 := xc_rng r8
  have K11 := xk_tr K K10 rfl
  obtain ⟨u12, u13, bu12, bu13, A14⟩ := xq_0 K11.1
  have e15 : u6 = u13 := xk_eqi (q := 9) K10 rfl A7 A14 rfl rfl
  subst e15
  show xw J ov 100 195 (834, [(4, .int x4), (3, .ref 167), (2, .ref 115), (1, .ref 0), (0, .ref 1000000)], [.int r8], hh9) _
  refine xi_pop (pc' := 835) kc_195_834 rfl rfl ?_
  refine xi_aload_n (pc' := 836) (x := 115) kc_195_835 rfl rfl ?_
  refine xi_aload_n (pc' := 837) (x := 1000000) kc_195_836 rfl rfl ?_
  refine xi_iload (pc' := 839) (x := x4) kc_195_837 rfl rfl ?_
  refine xi_iconst (pc' := 840) (v := 1) kc_195_839 rfl rfl ?_
  refine xi_iadd (pc' := 841) (v := v1) kc_195_840 rfl ev1 ?_
  refine xi_ialoadO (pc' := 842) (v := a2) kc_195_841 rfl (by decide) hov0 (xi_in (by omega) (by omega)) ea2 ?_
  refine xi_aload_n (pc' := 843) (x := 1000000) kc_195_842 rfl rfl ?_
  refine xi_iload (pc' := 845) (x := x4) kc_195_843 rfl rfl ?_
  refine xi_iconst (pc' := 846) (v := 2) kc_195_845 rfl rfl ?_
  refine xi_iadd (pc' := 847) (v := v3) kc_195_846 rfl ev3 ?_
  refine xi_ialoadO (pc' := 848) (v := a4) kc_195_847 rfl (by decide) hov0 (xi_in (by omega) (by omega)) ea4 ?_
  obtain ⟨u16, u17, u18, u19, u20, u21, u22, u23, u24, u25, u26, u27, u28, bu16, bu17, bu18, bu19, bu20, bu21, bu22, bu23, bu24, bu25, bu26, bu27, bu28, A29⟩ := xq_115 K11.1
  refine xi_virtual (mj := 46) (as := [.int a2, .int a4]) (st1 := []) (lv0 := [(0, .ref 115), (1, .int a2), (2, .int a4)]) kc_195_848 rfl rfl rfl rfl rfl A29 (Nat.le_of_ble_eq_true rfl) (hJ _ _ _ _ (by decide)) (xm_le ml_46 rfl) rfl ?_
  refine mt_46_0 hJ hov1 hov2 (d := 93) (x1 := a2) (x2 := a4) K11.1 (fun r30 hh31 K32 => ?_)
  have br30 := xc_rng r30
  have K33 := xk_tr K11 K32 rfl
  obtain ⟨u34, u35, bu34, bu35, A36⟩ := xq_0 K33.1
  have e37 : u6 = u35 := xk_eqi (q := 9) K32 rfl A14 A36 rfl rfl
  subst e37
  obtain ⟨u38, u39, u40, u41, u42, u43, u44, u45, u46, u47, u48, u49, u50, bu38, bu39, bu40, bu41, bu42, bu43, bu44, bu45, bu46, bu47, bu48, bu49, bu50, A51⟩ := xq_115 K33.1
  have e52 : u17 = u39 := xk_eqi (q := 1) K32 rfl A29 A51 rfl rfl
  subst e52
  have e53 : u27 = u49 := xk_eqi (q := 56) K32 rfl A29 A51 rfl rfl
  subst e53
  show xw J ov 100 195 (851, [(4, .int x4), (3, .ref 167), (2, .ref 115), (1, .ref 0), (0, .ref 1000000)], [.int r30], hh31) _
  refine xi_pop (pc' := 852) kc_195_851 rfl rfl ?_
  refine xi_goto (pc' := 1501) kc_195_852 rfl ?_
  obtain ⟨v54, ev54⟩ : ∃ q : Int32, x4 + 6 = q := ⟨_, rfl⟩
  have zv54 : v54.toInt = (x4.toInt + 6) := by rw [← ev54]; exact (xz_add (X := x4.toInt) (Y := 6) rfl (by decide) (by omega) (by omega)).trans (by omega)
  refine xi_iinc (pc' := 1504) (x := x4) (v := v54) (lv' := [(4, .int v54), (3, .ref 167), (2, .ref 115), (1, .ref 0), (0, .ref 1000000)]) kc_195_1501 rfl rfl ev54 rfl (xm_lt ml_195 rfl) ?_
  refine xi_goto (pc' := 23) kc_195_1504 rfl ?_
  exact kk v54 hh31 (by omega) K33
set_option maxHeartbeats 8000000 in
theorem lc_16 {J : xe_J} {ov : List (List Int32)} (hJ : ∀ d mj as h, mj ≠ xe_loff → J d mj as h = none) (hov1 : ov[1]? = some [10, 0, 0, 0, 0, 0]) (hov2 : ov[2]? = some [99, 30, 50, 50, 1, 99999]) {xs : List Int32} (hov0 : ov[0]? = some xs) {Q : Option Value → xe_H → Prop} {h : xe_H} {x4 : Int32} (hi0 : 0 ≤ x4.toInt) (hi1 : x4.toInt + 6 ≤ xs.length) (hi2 : x4.toInt ≤ 3066) (T : xt h) (kk : ∀ (i : Int32) (h' : xe_H), i.toInt = x4.toInt + 6 → xk [(0, 9), (115, 1), (85, 8), (115, 56)] h h' → xw J ov 100 195 (23, [(4, .int i), (3, .ref 167), (2, .ref 115), (1, .ref 0), (0, .ref 1000000)], [], h') Q) : xw J ov 100 195 (855, [(4, .int x4), (3, .ref 167), (2, .ref 115), (1, .ref 0), (0, .ref 1000000)], [], h) Q := by
  have K : xk [(0, 9), (115, 1), (85, 8), (115, 56)] h h := xk_re T
  refine xi_aload_n (pc' := 856) (x := 0) kc_195_855 rfl rfl ?_
  obtain ⟨u1, u2, bu1, bu2, A3⟩ := xq_0 K.1
  refine xi_virtual (mj := 144) (as := []) (st1 := []) (lv0 := [(0, .ref 0)]) kc_195_856 rfl rfl rfl rfl rfl A3 (Nat.le_of_ble_eq_true rfl) (hJ _ _ _ _ (by decide)) (xm_le ml_144 rfl) rfl ?_
  refine mt_144_0 hJ hov1 hov2 (d := 92)  K.1 (fun r4 hh5 br4 K6 => ?_)
  have K7 := xk_tr K K6 rfl
  obtain ⟨u8, u9, bu8, bu9, A10⟩ := xq_0 K7.1
  have e11 : u2 = u9 := xk_eqi (q := 9) K6 rfl A3 A10 rfl rfl
  subst e11
  show xw J ov 100 195 (859, [(4, .int x4), (3, .ref 167), (2, .ref 115), (1, .ref 0), (0, .ref 1000000)], [.int r4], hh5) _
  refine xi_pop (pc' := 860) kc_195_859 rfl rfl ?_
  refine xi_aload_n (pc' := 861) (x := 115) kc_195_860 rfl rfl ?_
  obtain ⟨u12, u13, u14, u15, u16, u17, u18, u19, u20, u21, u22, u23, u24, bu12, bu13, bu14, bu15, bu16, bu17, bu18, bu19, bu20, bu21, bu22, bu23, bu24, A25⟩ := xq_115 K7.1
  refine xi_virtual (mj := 47) (as := []) (st1 := []) (lv0 := [(0, .ref 115)]) kc_195_861 rfl rfl rfl rfl rfl A25 (Nat.le_of_ble_eq_true rfl) (hJ _ _ _ _ (by decide)) (xm_le ml_47 rfl) rfl ?_
  refine mt_47_0 hJ hov1 hov2 (d := 91)  K7.1 (fun r26 hh27 br26 K28 => ?_)
  have K29 := xk_tr K7 K28 rfl
  obtain ⟨u30, u31, bu30, bu31, A32⟩ := xq_0 K29.1
  have e33 : u2 = u31 := xk_eqi (q := 9) K28 rfl A10 A32 rfl rfl
  subst e33
  obtain ⟨u34, u35, u36, u37, u38, u39, u40, u41, u42, u43, u44, u45, u46, bu34, bu35, bu36, bu37, bu38, bu39, bu40, bu41, bu42, bu43, bu44, bu45, bu46, A47⟩ := xq_115 K29.1
  have e48 : u13 = u35 := xk_eqi (q := 1) K28 rfl A25 A47 rfl rfl
  subst e48
  have e49 : u23 = u45 := xk_eqi (q := 56) K28 rfl A25 A47 rfl rfl
  subst e49
  show xw J ov 100 195 (864, [(4, .int x4), (3, .ref 167), (2, .ref 115), (1, .ref 0), (0, .ref 1000000)], [.int r26], hh27) _
  refine xi_pop (pc' := 865) kc_195_864 rfl rfl ?_
  refine xi_goto (pc' := 1501) kc_195_865 rfl ?_
  obtain ⟨v50, ev50⟩ : ∃ q : Int32, x4 + 6 = q := ⟨_, rfl⟩
  have zv50 : v50.toInt = (x4.toInt + 6) := by rw [← ev50]; exact (xz_add (X := x4.toInt) (Y := 6) rfl (by decide) (by omega) (by omega)).trans (by omega)
  refine xi_iinc (pc' := 1504) (x := x4) (v := v50) (lv' := [(4, .int v50), (3, .ref 167), (2, .ref 115), (1, .ref 0), (0, .ref 1000000)]) kc_195_1501 rfl rfl ev50 rfl (xm_lt ml_195 rfl) ?_
  refine xi_goto (pc' := 23) kc_195_1504 rfl ?_
  exact kk v50 hh27 (by omega) K29
set_option maxHeartbeats 8000000 in
theorem lc_17 {J : xe_J} {ov : List (List Int32)} (hJ : ∀ d mj as h, mj ≠ xe_loff → J d mj as h = none) (hov1 : ov[1]? = some [10, 0, 0, 0, 0, 0]) (hov2 : ov[2]? = some [99, 30, 50, 50, 1, 99999]) {xs : List Int32} (hov0 : ov[0]? = some xs) {Q : Option Value → xe_H → Prop} {h : xe_H} {x4 : Int32} (hi0 : 0 ≤ x4.toInt) (hi1 : x4.toInt + 6 ≤ xs.length) (hi2 : x4.toInt ≤ 3066) (T : xt h) (kk : ∀ (i : Int32) (h' : xe_H), i.toInt = x4.toInt + 6 → xk [(0, 9), (115, 1), (85, 8), (115, 56)] h h' → xw J ov 100 195 (23, [(4, .int i), (3, .ref 167), (2, .ref 115), (1, .ref 0), (0, .ref 1000000)], [], h') Q) : xw J ov 100 195 (868, [(4, .int x4), (3, .ref 167), (2, .ref 115), (1, .ref 0), (0, .ref 1000000)], [], h) Q := by
  have K : xk [(0, 9), (115, 1), (85, 8), (115, 56)] h h := xk_re T
  refine xi_aload_n (pc' := 869) (x := 0) kc_195_868 rfl rfl ?_
  refine xi_aload_n (pc' := 870) (x := 1000000) kc_195_869 rfl rfl ?_
  refine xi_iload (pc' := 872) (x := x4) kc_195_870 rfl rfl ?_
  refine xi_iconst (pc' := 873) (v := 1) kc_195_872 rfl rfl ?_
  obtain ⟨v1, ev1⟩ : ∃ q : Int32, x4 + 1 = q := ⟨_, rfl⟩
  have zv1 : v1.toInt = (x4.toInt + 1) := by rw [← ev1]; exact (xz_add (X := x4.toInt) (Y := 1) rfl (by decide) (by omega) (by omega)).trans (by omega)
  refine xi_iadd (pc' := 874) (v := v1) kc_195_873 rfl ev1 ?_
  obtain ⟨a2, ea2⟩ : ∃ q : Int32, xs.getD (Int32.toNatClampNeg v1) 0 = q := ⟨_, rfl⟩
  have ra2 := xc_rng a2
  refine xi_ialoadO (pc' := 875) (v := a2) kc_195_874 rfl (by decide) hov0 (xi_in (by omega) (by omega)) ea2 ?_
  obtain ⟨u3, u4, bu3, bu4, A5⟩ := xq_0 K.1
  refine xi_virtual (mj := 148) (as := [.int a2]) (st1 := []) (lv0 := [(0, .ref 0), (1, .int a2)]) kc_195_875 rfl rfl rfl rfl rfl A5 (Nat.le_of_ble_eq_true rfl) (hJ _ _ _ _ (by decide)) (xm_le ml_148 rfl) rfl ?_
  refine mt_148_0 hJ hov1 hov2 (d := 92) (x1 := a2) K.1 (fun r6 hh7 K8 => ?_)
  have br6 := xc_rng r6
  have K9 := xk_tr K K8 rfl
  obtain ⟨u10, u11, bu10, bu11, A12⟩ := xq_0 K9.1
  have e13 : u4 = u11 := xk_eqi (q := 9) K8 rfl A5 A12 rfl rfl
  subst e13
  show xw J ov 100 195 (878, [(4, .int x4), (3, .ref 167), (2, .ref 115), (1, .ref 0), (0, .ref 1000000)], [.int r6], hh7) _
  refine xi_pop (pc' := 879) kc_195_878 rfl rfl ?_
  refine xi_aload_n (pc' := 880) (x := 115) kc_195_879 rfl rfl ?_
  refine xi_aload_n (pc' := 881) (x := 1000000) kc_195_880 rfl rfl ?_
  refine xi_iload (pc' := 883) (x := x4) kc_195_881 rfl rfl ?_
  refine xi_iconst (pc' := 884) (v := 1) kc_195_883 rfl rfl ?_
  refine xi_iadd (pc' := 885) (v := v1) kc_195_884 rfl ev1 ?_
  refine xi_ialoadO (pc' := 886) (v := a2) kc_195_885 rfl (by decide) hov0 (xi_in (by omega) (by omega)) ea2 ?_
  obtain ⟨u14, u15, u16, u17, u18, u19, u20, u21, u22, u23, u24, u25, u26, bu14, bu15, bu16, bu17, bu18, bu19, bu20, bu21, bu22, bu23, bu24, bu25, bu26, A27⟩ := xq_115 K9.1
  refine xi_virtual (mj := 50) (as := [.int a2]) (st1 := []) (lv0 := [(0, .ref 115), (1, .int a2)]) kc_195_886 rfl rfl rfl rfl rfl A27 (Nat.le_of_ble_eq_true rfl) (hJ _ _ _ _ (by decide)) (xm_le ml_50 rfl) rfl ?_
  refine mt_50_0 hJ hov1 hov2 (d := 92) (x1 := a2) K9.1 (fun r28 hh29 K30 => ?_)
  have br28 := xc_rng r28
  have K31 := xk_tr K9 K30 rfl
  obtain ⟨u32, u33, bu32, bu33, A34⟩ := xq_0 K31.1
  have e35 : u4 = u33 := xk_eqi (q := 9) K30 rfl A12 A34 rfl rfl
  subst e35
  obtain ⟨u36, u37, u38, u39, u40, u41, u42, u43, u44, u45, u46, u47, u48, bu36, bu37, bu38, bu39, bu40, bu41, bu42, bu43, bu44, bu45, bu46, bu47, bu48, A49⟩ := xq_115 K31.1
  have e50 : u15 = u37 := xk_eqi (q := 1) K30 rfl A27 A49 rfl rfl
  subst e50
  have e51 : u25 = u47 := xk_eqi (q := 56) K30 rfl A27 A49 rfl rfl
  subst e51
  show xw J ov 100 195 (889, [(4, .int x4), (3, .ref 167), (2, .ref 115), (1, .ref 0), (0, .ref 1000000)], [.int r28], hh29) _
  refine xi_pop (pc' := 890) kc_195_889 rfl rfl ?_
  refine xi_goto (pc' := 1501) kc_195_890 rfl ?_
  obtain ⟨v52, ev52⟩ : ∃ q : Int32, x4 + 6 = q := ⟨_, rfl⟩
  have zv52 : v52.toInt = (x4.toInt + 6) := by rw [← ev52]; exact (xz_add (X := x4.toInt) (Y := 6) rfl (by decide) (by omega) (by omega)).trans (by omega)
  refine xi_iinc (pc' := 1504) (x := x4) (v := v52) (lv' := [(4, .int v52), (3, .ref 167), (2, .ref 115), (1, .ref 0), (0, .ref 1000000)]) kc_195_1501 rfl rfl ev52 rfl (xm_lt ml_195 rfl) ?_
  refine xi_goto (pc' := 23) kc_195_1504 rfl ?_
  exact kk v52 hh29 (by omega) K31
set_option maxHeartbeats 8000000 in
theorem lc_18 {J : xe_J} {ov : List (List Int32)} (hJ : ∀ d mj as h, mj ≠ xe_loff → J d mj as h = none) (hov1 : ov[1]? = some [10, 0, 0, 0, 0, 0]) (hov2 : ov[2]? = some [99, 30, 50, 50, 1, 99999]) {xs : List Int32} (hov0 : ov[0]? = some xs) {Q : Option Value → xe_H → Prop} {h : xe_H} {x4 : Int32} (hi0 : 0 ≤ x4.toInt) (hi1 : x4.toInt + 6 ≤ xs.length) (hi2 : x4.toInt ≤ 3066) (T : xt h) (kk : ∀ (i : Int32) (h' : xe_H), i.toInt = x4.toInt + 6 → xk [(0, 9), (115, 1), (85, 8), (115, 56)] h h' → xw J ov 100 195 (23, [(4, .int i), (3, .ref 167), (2, .ref 115), (1, .ref 0), (0, .ref 1000000)], [], h') Q) : xw J ov 100 195 (893, [(4, .int x4), (3, .ref 167), (2, .ref 115), (1, .ref 0), (0, .ref 1000000)], [], h) Q := by
  have K : xk [(0, 9), (115, 1), (85, 8), (115, 56)] h h := xk_re T
  refine xi_aload_n (pc' := 894) (x := 0) kc_195_893 rfl rfl ?_
  obtain ⟨u1, u2, bu1, bu2, A3⟩ := xq_0 K.1
  refine xi_virtual (mj := 151) (as := []) (st1 := []) (lv0 := [(0, .ref 0)]) kc_195_894 rfl rfl rfl rfl rfl A3 (Nat.le_of_ble_eq_true rfl) (hJ _ _ _ _ (by decide)) (xm_le ml_151 rfl) rfl ?_
  refine mt_151_0 hJ hov1 hov2 (d := 91)  K.1 (fun r4 hh5 K6 => ?_)
  have br4 := xc_rng r4
  have K7 := xk_tr K K6 rfl
  obtain ⟨u8, u9, bu8, bu9, A10⟩ := xq_0 K7.1
  have e11 : u2 = u9 := xk_eqi (q := 9) K6 rfl A3 A10 rfl rfl
  subst e11
  show xw J ov 100 195 (897, [(4, .int x4), (3, .ref 167), (2, .ref 115), (1, .ref 0), (0, .ref 1000000)], [.int r4], hh5) _
  refine xi_pop (pc' := 898) kc_195_897 rfl rfl ?_
  refine xi_aload_n (pc' := 899) (x := 115) kc_195_898 rfl rfl ?_
  obtain ⟨u12, u13, u14, u15, u16, u17, u18, u19, u20, u21, u22, u23, u24, bu12, bu13, bu14, bu15, bu16, bu17, bu18, bu19, bu20, bu21, bu22, bu23, bu24, A25⟩ := xq_115 K7.1
  refine xi_virtual (mj := 51) (as := []) (st1 := []) (lv0 := [(0, .ref 115)]) kc_195_899 rfl rfl rfl rfl rfl A25 (Nat.le_of_ble_eq_true rfl) (hJ _ _ _ _ (by decide)) (xm_le ml_51 rfl) rfl ?_
  refine mt_51_0 hJ hov1 hov2 (d := 91)  K7.1 (fun r26 hh27 K28 => ?_)
  have br26 := xc_rng r26
  have K29 := xk_tr K7 K28 rfl
  obtain ⟨u30, u31, bu30, bu31, A32⟩ := xq_0 K29.1
  have e33 : u2 = u31 := xk_eqi (q := 9) K28 rfl A10 A32 rfl rfl
  subst e33
  obtain ⟨u34, u35, u36, u37, u38, u39, u40, u41, u42, u43, u44, u45, u46, bu34, bu35, bu36, bu37, bu38, bu39, bu40, bu41, bu42, bu43, bu44, bu45, bu46, A47⟩ := xq_115 K29.1
  have e48 : u13 = u35 := xk_eqi (q := 1) K28 rfl A25 A47 rfl rfl
  subst e48
  have e49 : u23 = u45 := xk_eqi (q := 56) K28 rfl A25 A47 rfl rfl
  subst e49
  show xw J ov 100 195 (902, [(4, .int x4), (3, .ref 167), (2, .ref 115), (1, .ref 0), (0, .ref 1000000)], [.int r26], hh27) _
  refine xi_pop (pc' := 903) kc_195_902 rfl rfl ?_
  refine xi_goto (pc' := 1501) kc_195_903 rfl ?_
  obtain ⟨v50, ev50⟩ : ∃ q : Int32, x4 + 6 = q := ⟨_, rfl⟩
  have zv50 : v50.toInt = (x4.toInt + 6) := by rw [← ev50]; exact (xz_add (X := x4.toInt) (Y := 6) rfl (by decide) (by omega) (by omega)).trans (by omega)
  refine xi_iinc (pc' := 1504) (x := x4) (v := v50) (lv' := [(4, .int v50), (3, .ref 167), (2, .ref 115), (1, .ref 0), (0, .ref 1000000)]) kc_195_1501 rfl rfl ev50 rfl (xm_lt ml_195 rfl) ?_
  refine xi_goto (pc' := 23) kc_195_1504 rfl ?_
  exact kk v50 hh27 (by omega) K29
set_option maxHeartbeats 8000000 in
theorem lc_19 {J : xe_J} {ov : List (List Int32)} (hJ : ∀ d mj as h, mj ≠ xe_loff → J d mj as h = none) (hov1 : ov[1]? = some [10, 0, 0, 0, 0, 0]) (hov2 : ov[2]? = some [99, 30, 50, 50, 1, 99999]) {xs : List Int32} (hov0 : ov[0]? = some xs) {Q : Option Value → xe_H → Prop} {h : xe_H} {x4 : Int32} (hi0 : 0 ≤ x4.toInt) (hi1 : x4.toInt + 6 ≤ xs.length) (hi2 : x4.toInt ≤ 3066) (T : xt h) (kk : ∀ (i : Int32) (h' : xe_H), i.toInt = x4.toInt + 6 → xk [(0, 9), (115, 1), (85, 8), (115, 56)] h h' → xw J ov 100 195 (23, [(4, .int i), (3, .ref 167), (2, .ref 115), (1, .ref 0), (0, .ref 1000000)], [], h') Q) : xw J ov 100 195 (906, [(4, .int x4), (3, .ref 167), (2, .ref 115), (1, .ref 0), (0, .ref 1000000)], [], h) Q := by
  have K : xk [(0, 9), (115, 1), (85, 8), (115, 56)] h h := xk_re T
  refine xi_aload_n (pc' := 907) (x := 0) kc_195_906 rfl rfl ?_
  refine xi_aload_n (pc' := 908) (x := 1000000) kc_195_907 rfl rfl ?_
  refine xi_iload (pc' := 910) (x := x4) kc_195_908 rfl rfl ?_
  refine xi_iconst (pc' := 911) (v := 1) kc_195_910 rfl rfl ?_
  obtain ⟨v1, ev1⟩ : ∃ q : Int32, x4 + 1 = q := ⟨_, rfl⟩
  have zv1 : v1.toInt = (x4.toInt + 1) := by rw [← ev1]; exact (xz_add (X := x4.toInt) (Y := 1) rfl (by decide) (by omega) (by omega)).trans (by omega)
  refine xi_iadd (pc' := 912) (v := v1) kc_195_911 rfl ev1 ?_
  obtain ⟨a2, ea2⟩ : ∃ q : Int32, xs.getD (Int32.toNatClampNeg v1) 0 = q := ⟨_, rfl⟩
  have ra2 := xc_rng a2
  refine xi_ialoadO (pc' := 913) (v := a2) kc_195_912 rfl (by decide) hov0 (xi_in (by omega) (by omega)) ea2 ?_
  refine xi_aload_n (pc' := 914) (x := 1000000) kc_195_913 rfl rfl ?_
  refine xi_iload (pc' := 916) (x := x4) kc_195_914 rfl rfl ?_
  refine xi_iconst (pc' := 917) (v := 2) kc_195_916 rfl rfl ?_
  obtain ⟨v3, ev3⟩ : ∃ q : Int32, x4 + 2 = q := ⟨_, rfl⟩
  have zv3 : v3.toInt = (x4.toInt + 2) := by rw [← ev3]; exact (xz_add (X := x4.toInt) (Y := 2) rfl (by decide) (by omega) (by omega)).trans (by omega)
  refine xi_iadd (pc' := 918) (v := v3) kc_195_917 rfl ev3 ?_
  obtain ⟨a4, ea4⟩ : ∃ q : Int32, xs.getD (Int32.toNatClampNeg v3) 0 = q := ⟨_, rfl⟩
  have ra4 := xc_rng a4
  refine xi_ialoadO (pc' := 919) (v := a4) kc_195_918 rfl (by decide) hov0 (xi_in (by omega) (by omega)) ea4 ?_
  obtain ⟨u5, u6, bu5, bu6, A7⟩ := xq_0 K.1
  refine xi_virtual (mj := 155) (as := [.int a2, .int a4]) (st1 := []) (lv0 := [(0, .ref 0), (1, .int a2), (2, .int a4)]) kc_195_919 rfl rfl rfl rfl rfl A7 (Nat.le_of_ble_eq_true rfl) (hJ _ _ _ _ (by decide)) (xm_le ml_155 rfl) rfl ?_
  refine mt_155_0 hJ hov1 hov2 (d := 97) (x1 := a2) (x2 := a4) K.1 (fun r8 hh9 br8 K10 => ?_)
  have K11 := xk_tr K K10 rfl
  obtain ⟨u12, u13, bu12, bu13, A14⟩ := xq_0 K11.1
  have e15 : u6 = u13 := xk_eqi (q := 9) K10 rfl A7 A14 rfl rfl
  subst e15
  show xw J ov 100 195 (922, [(4, .int x4), (3, .ref 167), (2, .ref 115), (1, .ref 0), (0, .ref 1000000)], [.int r8], hh9) _
  refine xi_pop (pc' := 923) kc_195_922 rfl rfl ?_
  refine xi_aload_n (pc' := 924) (x := 115) kc_195_923 rfl rfl ?_
  refine xi_aload_n (pc' := 925) (x := 1000000) kc_195_924 rfl rfl ?_
  refine xi_iload (pc' := 927) (x := x4) kc_195_925 rfl rfl ?_
  refine xi_iconst (pc' := 928) (v := 1) kc_195_927 rfl rfl ?_
  refine xi_iadd (pc' := 929) (v := v1) kc_195_928 rfl ev1 ?_
  refine xi_ialoadO (pc' := 930) (v := a2) kc_195_929 rfl (by decide) hov0 (xi_in (by omega) (by omega)) ea2 ?_
  refine xi_aload_n (pc' := 931) (x := 1000000) kc_195_930 rfl rfl ?_
  refine xi_iload (pc' := 933) (x := x4) kc_195_931 rfl rfl ?_
  refine xi_iconst (pc' := 934) (v := 2) kc_195_933 rfl rfl ?_
  refine xi_iadd (pc' := 935) (v := v3) kc_195_934 rfl ev3 ?_
  refine xi_ialoadO (pc' := 936) (v := a4) kc_195_935 rfl (by decide) hov0 (xi_in (by omega) (by omega)) ea4 ?_
  obtain ⟨u16, u17, u18, u19, u20, u21, u22, u23, u24, u25, u26, u27, u28, bu16, bu17, bu18, bu19, bu20, bu21, bu22, bu23, bu24, bu25, bu26, bu27, bu28, A29⟩ := xq_115 K11.1
  refine xi_virtual (mj := 55) (as := [.int a2, .int a4]) (st1 := []) (lv0 := [(0, .ref 115), (1, .int a2), (2, .int a4)]) kc_195_936 rfl rfl rfl rfl rfl A29 (Nat.le_of_ble_eq_true rfl) (hJ _ _ _ _ (by decide)) (xm_le ml_55 rfl) rfl ?_
  refine mt_55_0 hJ hov1 hov2 (d := 98) (x1 := a2) (x2 := a4) K11.1 (fun r30 hh31 br30 K32 => ?_)
  have K33 := xk_tr K11 K32 rfl
  obtain ⟨u34, u35, bu34, bu35, A36⟩ := xq_0 K33.1
  have e37 : u6 = u35 := xk_eqi (q := 9) K32 rfl A14 A36 rfl rfl
  subst e37
  obtain ⟨u38, u39, u40, u41, u42, u43, u44, u45, u46, u47, u48, u49, u50, bu38, bu39, bu40, bu41, bu42, bu43, bu44, bu45, bu46, bu47, bu48, bu49, bu50, A51⟩ := xq_115 K33.1
  have e52 : u17 = u39 := xk_eqi (q := 1) K32 rfl A29 A51 rfl rfl
  subst e52
  have e53 : u27 = u49 := xk_eqi (q := 56) K32 rfl A29 A51 rfl rfl
  subst e53
  show xw J ov 100 195 (939, [(4, .int x4), (3, .ref 167), (2, .ref 115), (1, .ref 0), (0, .ref 1000000)], [.int r30], hh31) _
  refine xi_pop (pc' := 940) kc_195_939 rfl rfl ?_
  refine xi_goto (pc' := 1501) kc_195_940 rfl ?_
  obtain ⟨v54, ev54⟩ : ∃ q : Int32, x4 + 6 = q := ⟨_, rfl⟩
  have zv54 : v54.toInt = (x4.toInt + 6) := by rw [← ev54]; exact (xz_add (X := x4.toInt) (Y := 6) rfl (by decide) (by omega) (by omega)).trans (by omega)
  refine xi_iinc (pc' := 1504) (x := x4) (v := v54) (lv' := [(4, .int v54), (3, .ref 167), (2, .ref 115), (1, .ref 0), (0, .ref 1000000)]) kc_195_1501 rfl rfl ev54 rfl (xm_lt ml_195 rfl) ?_
  refine xi_goto (pc' := 23) kc_195_1504 rfl ?_
  exact kk v54 hh31 (by omega) K33
set_option maxHeartbeats 8000000 in
theorem lc_20 {J : xe_J} {ov : List (List Int32)} (hJ : ∀ d mj as h, mj ≠ xe_loff → J d mj as h = none) (hov1 : ov[1]? = some [10, 0, 0, 0, 0, 0]) (hov2 : ov[2]? = some [99, 30, 50, 50, 1, 99999]) {xs : List Int32} (hov0 : ov[0]? = some xs) {Q : Option Value → xe_H → Prop} {h : xe_H} {x4 : Int32} (hi0 : 0 ≤ x4.toInt) (hi1 : x4.toInt + 6 ≤ xs.length) (hi2 : x4.toInt ≤ 3066) (T : xt h) (kk : ∀ (i : Int32) (h' : xe_H), i.toInt = x4.toInt + 6 → xk [(0, 9), (115, 1), (85, 8), (115, 56)] h h' → xw J ov 100 195 (23, [(4, .int i), (3, .ref 167), (2, .ref 115), (1, .ref 0), (0, .ref 1000000)], [], h') Q) : xw J ov 100 195 (943, [(4, .int x4), (3, .ref 167), (2, .ref 115), (1, .ref 0), (0, .ref 1000000)], [], h) Q := by
  have K : xk [(0, 9), (115, 1), (85, 8), (115, 56)] h h := xk_re T
  refine xi_aload_n (pc' := 944) (x := 0) kc_195_943 rfl rfl ?_
  refine xi_aload_n (pc' := 945) (x := 1000000) kc_195_944 rfl rfl ?_
  refine xi_iload (pc' := 947) (x := x4) kc_195_945 rfl rfl ?_
  refine xi_iconst (pc' := 948) (v := 1) kc_195_947 rfl rfl ?_
  obtain ⟨v1, ev1⟩ : ∃ q : Int32, x4 + 1 = q := ⟨_, rfl⟩
  have zv1 : v1.toInt = (x4.toInt + 1) := by rw [← ev1]; exact (xz_add (X := x4.toInt) (Y := 1) rfl (by decide) (by omega) (by omega)).trans (by omega)
  refine xi_iadd (pc' := 949) (v := v1) kc_195_948 rfl ev1 ?_
  obtain ⟨a2, ea2⟩ : ∃ q : Int32, xs.getD (Int32.toNatClampNeg v1) 0 = q := ⟨_, rfl⟩
  have ra2 := xc_rng a2
  refine xi_ialoadO (pc' := 950) (v := a2) kc_195_949 rfl (by decide) hov0 (xi_in (by omega) (by omega)) ea2 ?_
  refine xi_aload_n (pc' := 951) (x := 1000000) kc_195_950 rfl rfl ?_
  refine xi_iload (pc' := 953) (x := x4) kc_195_951 rfl rfl ?_
  refine xi_iconst (pc' := 954) (v := 2) kc_195_953 rfl rfl ?_
  obtain ⟨v3, ev3⟩ : ∃ q : Int32, x4 + 2 = q := ⟨_, rfl⟩
  have zv3 : v3.toInt = (x4.toInt + 2) := by rw [← ev3]; exact (xz_add (X := x4.toInt) (Y := 2) rfl (by decide) (by omega) (by omega)).trans (by omega)
  refine xi_iadd (pc' := 955) (v := v3) kc_195_954 rfl ev3 ?_
  obtain ⟨a4, ea4⟩ : ∃ q : Int32, xs.getD (Int32.toNatClampNeg v3) 0 = q := ⟨_, rfl⟩
  have ra4 := xc_rng a4
  refine xi_ialoadO (pc' := 956) (v := a4) kc_195_955 rfl (by decide) hov0 (xi_in (by omega) (by omega)) ea4 ?_
  by_cases c5 : a4.toInt = 0
  · refine xi_ift (pc' := 963) kc_195_956 rfl (xc_eq_t (X := a4.toInt) (Y := 0) rfl (by decide) (by omega)) ?_
    refine xi_iconst (pc' := 964) (v := 0) kc_195_963 rfl rfl ?_
    obtain ⟨u6, u7, bu6, bu7, A8⟩ := xq_0 K.1
    refine xi_virtual (mj := 157) (as := [.int a2, .int 0]) (st1 := []) (lv0 := [(0, .ref 0), (1, .int a2), (2, .int 0)]) kc_195_964 rfl rfl rfl rfl rfl A8 (Nat.le_of_ble_eq_true rfl) (hJ _ _ _ _ (by decide)) (xm_le ml_157 rfl) rfl ?_
    have zc0 : (0 : Int32).toInt = 0 := by decide
    refine mt_157_0 hJ hov1 hov2 (d := 91) (x1 := a2) (x2 := 0) K.1 (by first | omega | decide) (fun r9 hh10 K11 => ?_)
    have br9 := xc_rng r9
    have K12 := xk_tr K K11 rfl
    obtain ⟨u13, u14, bu13, bu14, A15⟩ := xq_0 K12.1
    have e16 : u7 = u14 := xk_eqi (q := 9) K11 rfl A8 A15 rfl rfl
    subst e16
    show xw J ov 100 195 (967, [(4, .int x4), (3, .ref 167), (2, .ref 115), (1, .ref 0), (0, .ref 1000000)], [.int r9], hh10) _
    refine xi_pop (pc' := 968) kc_195_967 rfl rfl ?_
    refine xi_aload_n (pc' := 969) (x := 115) kc_195_968 rfl rfl ?_
    refine xi_aload_n (pc' := 970) (x := 1000000) kc_195_969 rfl rfl ?_
    refine xi_iload (pc' := 972) (x := x4) kc_195_970 rfl rfl ?_
    refine xi_iconst (pc' := 973) (v := 1) kc_195_972 rfl rfl ?_
    refine xi_iadd (pc' := 974) (v := v1) kc_195_973 rfl ev1 ?_
    refine xi_ialoadO (pc' := 975) (v := a2) kc_195_974 rfl (by decide) hov0 (xi_in (by omega) (by omega)) ea2 ?_
    refine xi_aload_n (pc' := 976) (x := 1000000) kc_195_975 rfl rfl ?_
    refine xi_iload (pc' := 978) (x := x4) kc_195_976 rfl rfl ?_
    refine xi_iconst (pc' := 979) (v := 2) kc_195_978 rfl rfl ?_
    refine xi_iadd (pc' := 980) (v := v3) kc_195_979 rfl ev3 ?_
    refine xi_ialoadO (pc' := 981) (v := a4) kc_195_980 rfl (by decide) hov0 (xi_in (by omega) (by omega)) ea4 ?_
    refine xi_ift (pc' := 988) kc_195_981 rfl (xc_eq_t (X := a4.toInt) (Y := 0) rfl (by decide) (by omega)) ?_
    refine xi_iconst (pc' := 989) (v := 0) kc_195_988 rfl rfl ?_
    obtain ⟨u17, u18, u19, u20, u21, u22, u23, u24, u25, u26, u27, u28, u29, bu17, bu18, bu19, bu20, bu21, bu22, bu23, bu24, bu25, bu26, bu27, bu28, bu29, A30⟩ := xq_115 K12.1
    refine xi_virtual (mj := 56) (as := [.int a2, .int 0]) (st1 := []) (lv0 := [(0, .ref 115), (1, .int a2), (2, .int 0)]) kc_195_989 rfl rfl rfl rfl rfl A30 (Nat.le_of_ble_eq_true rfl) (hJ _ _ _ _ (by decide)) (xm_le ml_56 rfl) rfl ?_
    have zc0 : (0 : Int32).toInt = 0 := by decide
    refine mt_56_0 hJ hov1 hov2 (d := 91) (x1 := a2) (x2 := 0) K12.1 (by first | omega | decide) (fun r31 hh32 K33 => ?_)
    have br31 := xc_rng r31
    have K34 := xk_tr K12 K33 rfl
    obtain ⟨u35, u36, bu35, bu36, A37⟩ := xq_0 K34.1
    have e38 : u7 = u36 := xk_eqi (q := 9) K33 rfl A15 A37 rfl rfl
    subst e38
    obtain ⟨u39, u40, u41, u42, u43, u44, u45, u46, u47, u48, u49, u50, u51, bu39, bu40, bu41, bu42, bu43, bu44, bu45, bu46, bu47, bu48, bu49, bu50, bu51, A52⟩ := xq_115 K34.1
    have e53 : u18 = u40 := xk_eqi (q := 1) K33 rfl A30 A52 rfl rfl
    subst e53
    have e54 : u28 = u50 := xk_eqi (q := 56) K33 rfl A30 A52 rfl rfl
    subst e54
    show xw J ov 100 195 (992, [(4, .int x4), (3, .ref 167), (2, .ref 115), (1, .ref 0), (0, .ref 1000000)], [.int r31], hh32) _
    refine xi_pop (pc' := 993) kc_195_992 rfl rfl ?_
    refine xi_goto (pc' := 1501) kc_195_993 rfl ?_
    obtain ⟨v55, ev55⟩ : ∃ q : Int32, x4 + 6 = q := ⟨_, rfl⟩
    have zv55 : v55.toInt = (x4.toInt + 6) := by rw [← ev55]; exact (xz_add (X := x4.toInt) (Y := 6) rfl (by decide) (by omega) (by omega)).trans (by omega)
    refine xi_iinc (pc' := 1504) (x := x4) (v := v55) (lv' := [(4, .int v55), (3, .ref 167), (2, .ref 115), (1, .ref 0), (0, .ref 1000000)]) kc_195_1501 rfl rfl ev55 rfl (xm_lt ml_195 rfl) ?_
    refine xi_goto (pc' := 23) kc_195_1504 rfl ?_
    exact kk v55 hh32 (by omega) K34
  · refine xi_iff (pc' := 959) kc_195_956 rfl (xc_eq_f (X := a4.toInt) (Y := 0) rfl (by decide) (by omega)) ?_
    refine xi_iconst (pc' := 960) (v := 1) kc_195_959 rfl rfl ?_
    refine xi_goto (pc' := 964) kc_195_960 rfl ?_
    obtain ⟨u56, u57, bu56, bu57, A58⟩ := xq_0 K.1
    refine xi_virtual (mj := 157) (as := [.int a2, .int 1]) (st1 := []) (lv0 := [(0, .ref 0), (1, .int a2), (2, .int 1)]) kc_195_964 rfl rfl rfl rfl rfl A58 (Nat.le_of_ble_eq_true rfl) (hJ _ _ _ _ (by decide)) (xm_le ml_157 rfl) rfl ?_
    have zc1 : (1 : Int32).toInt = 1 := by decide
    refine mt_157_0 hJ hov1 hov2 (d := 91) (x1 := a2) (x2 := 1) K.1 (by first | omega | decide) (fun r59 hh60 K61 => ?_)
    have br59 := xc_rng r59
    have K62 := xk_tr K K61 rfl
    obtain ⟨u63, u64, bu63, bu64, A65⟩ := xq_0 K62.1
    have e66 : u57 = u64 := xk_eqi (q := 9) K61 rfl A58 A65 rfl rfl
    subst e66
    show xw J ov 100 195 (967, [(4, .int x4), (3, .ref 167), (2, .ref 115), (1, .ref 0), (0, .ref 1000000)], [.int r59], hh60) _
    refine xi_pop (pc' := 968) kc_195_967 rfl rfl ?_
    refine xi_aload_n (pc' := 969) (x := 115) kc_195_968 rfl rfl ?_
    refine xi_aload_n (pc' := 970) (x := 1000000) kc_195_969 rfl rfl ?_
    refine xi_iload (pc' := 972) (x := x4) kc_195_970 rfl rfl ?_
    refine xi_iconst (pc' := 973) (v := 1) kc_195_972 rfl rfl ?_
    refine xi_iadd (pc' := 974) (v := v1) kc_195_973 rfl ev1 ?_
    refine xi_ialoadO (pc' := 975) (v := a2) kc_195_974 rfl (by decide) hov0 (xi_in (by omega) (by omega)) ea2 ?_
    refine xi_aload_n (pc' := 976) (x := 1000000) kc_195_975 rfl rfl ?_
    refine xi_iload (pc' := 978) (x := x4) kc_195_976 rfl rfl ?_
    refine xi_iconst (pc' := 979) (v := 2) kc_195_978 rfl rfl ?_
    refine xi_iadd (pc' := 980) (v := v3) kc_195_979 rfl ev3 ?_
    refine xi_ialoadO (pc' := 981) (v := a4) kc_195_980 rfl (by decide) hov0 (xi_in (by omega) (by omega)) ea4 ?_
    refine xi_iff (pc' := 984) kc_195_981 rfl (xc_eq_f (X := a4.toInt) (Y := 0) rfl (by decide) (by omega)) ?_
    refine xi_iconst (pc' := 985) (v := 1) kc_195_984 rfl rfl ?_
    refine xi_goto (pc' := 989) kc_195_985 rfl ?_
    obtain ⟨u67, u68, u69, u70, u71, u72, u73, u74, u75, u76, u77, u78, u79, bu67, bu68, bu69, bu70, bu71, bu72, bu73, bu74, bu75, bu76, bu77, bu78, bu79, A80⟩ := xq_115 K62.1
    refine xi_virtual (mj := 56) (as := [.int a2, .int 1]) (st1 := []) (lv0 := [(0, .ref 115), (1, .int a2), (2, .int 1)]) kc_195_989 rfl rfl rfl rfl rfl A80 (Nat.le_of_ble_eq_true rfl) (hJ _ _ _ _ (by decide)) (xm_le ml_56 rfl) rfl ?_
    have zc1 : (1 : Int32).toInt = 1 := by decide
    refine mt_56_0 hJ hov1 hov2 (d := 91) (x1 := a2) (x2 := 1) K62.1 (by first | omega | decide) (fun r81 hh82 K83 => ?_)
    have br81 := xc_rng r81
    have K84 := xk_tr K62 K83 rfl
    obtain ⟨u85, u86, bu85, bu86, A87⟩ := xq_0 K84.1
    have e88 : u57 = u86 := xk_eqi (q := 9) K83 rfl A65 A87 rfl rfl
    subst e88
    obtain ⟨u89, u90, u91, u92, u93, u94, u95, u96, u97, u98, u99, u100, u101, bu89, bu90, bu91, bu92, bu93, bu94, bu95, bu96, bu97, bu98, bu99, bu100, bu101, A102⟩ := xq_115 K84.1
    have e103 : u68 = u90 := xk_eqi (q := 1) K83 rfl A80 A102 rfl rfl
    subst e103
    have e104 : u78 = u100 := xk_eqi (q := 56) K83 rfl A80 A102 rfl rfl
    subst e104
    show xw J ov 100 195 (992, [(4, .int x4), (3, .ref 167), (2, .ref 115), (1, .ref 0), (0, .ref 1000000)], [.int r81], hh82) _
    refine xi_pop (pc' := 993) kc_195_992 rfl rfl ?_
    refine xi_goto (pc' := 1501) kc_195_993 rfl ?_
    obtain ⟨v105, ev105⟩ : ∃ q : Int32, x4 + 6 = q := ⟨_, rfl⟩
    have zv105 : v105.toInt = (x4.toInt + 6) := by rw [← ev105]; exact (xz_add (X := x4.toInt) (Y := 6) rfl (by decide) (by omega) (by omega)).trans (by omega)
    refine xi_iinc (pc' := 1504) (x := x4) (v := v105) (lv' := [(4, .int v105), (3, .ref 167), (2, .ref 115), (1, .ref 0), (0, .ref 1000000)]) kc_195_1501 rfl rfl ev105 rfl (xm_lt ml_195 rfl) ?_
    refine xi_goto (pc' := 23) kc_195_1504 rfl ?_
    exact kk v105 hh82 (by omega) K84
set_option maxHeartbeats 8000000 in
theorem lc_21 {J : xe_J} {ov : List (List Int32)} (hJ : ∀ d mj as h, mj ≠ xe_loff → J d mj as h = none) (hov1 : ov[1]? = some [10, 0, 0, 0, 0, 0]) (hov2 : ov[2]? = some [99, 30, 50, 50, 1, 99999]) {xs : List Int32} (hov0 : ov[0]? = some xs) {Q : Option Value → xe_H → Prop} {h : xe_H} {x4 : Int32} (hi0 : 0 ≤ x4.toInt) (hi1 : x4.toInt + 6 ≤ xs.length) (hi2 : x4.toInt ≤ 3066) (T : xt h) (kk : ∀ (i : Int32) (h' : xe_H), i.toInt = x4.toInt + 6 → xk [(0, 9), (115, 1), (85, 8), (115, 56)] h h' → xw J ov 100 195 (23, [(4, .int i), (3, .ref 167), (2, .ref 115), (1, .ref 0), (0, .ref 1000000)], [], h') Q) : xw J ov 100 195 (996, [(4, .int x4), (3, .ref 167), (2, .ref 115), (1, .ref 0), (0, .ref 1000000)], [], h) Q := by
  have K : xk [(0, 9), (115, 1), (85, 8), (115, 56)] h h := xk_re T
  refine xi_aload_n (pc' := 997) (x := 0) kc_195_996 rfl rfl ?_
  obtain ⟨u1, u2, bu1, bu2, A3⟩ := xq_0 K.1
  refine xi_virtual (mj := 158) (as := []) (st1 := []) (lv0 := [(0, .ref 0)]) kc_195_997 rfl rfl rfl rfl rfl A3 (Nat.le_of_ble_eq_true rfl) (hJ _ _ _ _ (by decide)) (xm_le ml_158 rfl) rfl ?_
  refine mt_158_0 hJ hov1 hov2 (d := 91)  K.1 (fun r4 hh5 br4 K6 => ?_)
  have K7 := xk_tr K K6 rfl
  obtain ⟨u8, u9, bu8, bu9, A10⟩ := xq_0 K7.1
  have e11 : u2 = u9 := xk_eqi (q := 9) K6 rfl A3 A10 rfl rfl
  subst e11
  show xw J ov 100 195 (1000, [(4, .int x4), (3, .ref 167), (2, .ref 115), (1, .ref 0), (0, .ref 1000000)], [.int r4], hh5) _
  refine xi_pop (pc' := 1001) kc_195_1000 rfl rfl ?_
  refine xi_aload_n (pc' := 1002) (x := 115) kc_195_1001 rfl rfl ?_
  obtain ⟨u12, u13, u14, u15, u16, u17, u18, u19, u20, u21, u22, u23, u24, bu12, bu13, bu14, bu15, bu16, bu17, bu18, bu19, bu20, bu21, bu22, bu23, bu24, A25⟩ := xq_115 K7.1
  refine xi_virtual (mj := 57) (as := []) (st1 := []) (lv0 := [(0, .ref 115)]) kc_195_1002 rfl rfl rfl rfl rfl A25 (Nat.le_of_ble_eq_true rfl) (hJ _ _ _ _ (by decide)) (xm_le ml_57 rfl) rfl ?_
  refine mt_57_0 hJ hov1 hov2 (d := 91)  K7.1 (fun r26 hh27 br26 K28 => ?_)
  have K29 := xk_tr K7 K28 rfl
  obtain ⟨u30, u31, bu30, bu31, A32⟩ := xq_0 K29.1
  have e33 : u2 = u31 := xk_eqi (q := 9) K28 rfl A10 A32 rfl rfl
  subst e33
  obtain ⟨u34, u35, u36, u37, u38, u39, u40, u41, u42, u43, u44, u45, u46, bu34, bu35, bu36, bu37, bu38, bu39, bu40, bu41, bu42, bu43, bu44, bu45, bu46, A47⟩ := xq_115 K29.1
  have e48 : u13 = u35 := xk_eqi (q := 1) K28 rfl A25 A47 rfl rfl
  subst e48
  have e49 : u23 = u45 := xk_eqi (q := 56) K28 rfl A25 A47 rfl rfl
  subst e49
  show xw J ov 100 195 (1005, [(4, .int x4), (3, .ref 167), (2, .ref 115), (1, .ref 0), (0, .ref 1000000)], [.int r26], hh27) _
  refine xi_pop (pc' := 1006) kc_195_1005 rfl rfl ?_
  refine xi_goto (pc' := 1501) kc_195_1006 rfl ?_
  obtain ⟨v50, ev50⟩ : ∃ q : Int32, x4 + 6 = q := ⟨_, rfl⟩
  have zv50 : v50.toInt = (x4.toInt + 6) := by rw [← ev50]; exact (xz_add (X := x4.toInt) (Y := 6) rfl (by decide) (by omega) (by omega)).trans (by omega)
  refine xi_iinc (pc' := 1504) (x := x4) (v := v50) (lv' := [(4, .int v50), (3, .ref 167), (2, .ref 115), (1, .ref 0), (0, .ref 1000000)]) kc_195_1501 rfl rfl ev50 rfl (xm_lt ml_195 rfl) ?_
  refine xi_goto (pc' := 23) kc_195_1504 rfl ?_
  exact kk v50 hh27 (by omega) K29
set_option maxHeartbeats 8000000 in
theorem lc_22 {J : xe_J} {ov : List (List Int32)} (hJ : ∀ d mj as h, mj ≠ xe_loff → J d mj as h = none) (hov1 : ov[1]? = some [10, 0, 0, 0, 0, 0]) (hov2 : ov[2]? = some [99, 30, 50, 50, 1, 99999]) {xs : List Int32} (hov0 : ov[0]? = some xs) {Q : Option Value → xe_H → Prop} {h : xe_H} {x4 : Int32} (hi0 : 0 ≤ x4.toInt) (hi1 : x4.toInt + 6 ≤ xs.length) (hi2 : x4.toInt ≤ 3066) (T : xt h) (kk : ∀ (i : Int32) (h' : xe_H), i.toInt = x4.toInt + 6 → xk [(0, 9), (115, 1), (85, 8), (115, 56)] h h' → xw J ov 100 195 (23, [(4, .int i), (3, .ref 167), (2, .ref 115), (1, .ref 0), (0, .ref 1000000)], [], h') Q) : xw J ov 100 195 (1009, [(4, .int x4), (3, .ref 167), (2, .ref 115), (1, .ref 0), (0, .ref 1000000)], [], h) Q := by
  have K : xk [(0, 9), (115, 1), (85, 8), (115, 56)] h h := xk_re T
  refine xi_aload_n (pc' := 1010) (x := 0) kc_195_1009 rfl rfl ?_
  obtain ⟨u1, u2, bu1, bu2, A3⟩ := xq_0 K.1
  refine xi_virtual (mj := 160) (as := []) (st1 := []) (lv0 := [(0, .ref 0)]) kc_195_1010 rfl rfl rfl rfl rfl A3 (Nat.le_of_ble_eq_true rfl) (hJ _ _ _ _ (by decide)) (xm_le ml_160 rfl) rfl ?_
  refine mt_160_0 hJ hov1 hov2 (d := 86)  K.1 (fun r4 hh5 K6 => ?_)
  have br4 := xc_rng r4
  have K7 := xk_tr K K6 rfl
  obtain ⟨u8, u9, bu8, bu9, A10⟩ := xq_0 K7.1
  have e11 : u2 = u9 := xk_eqi (q := 9) K6 rfl A3 A10 rfl rfl
  subst e11
  show xw J ov 100 195 (1013, [(4, .int x4), (3, .ref 167), (2, .ref 115), (1, .ref 0), (0, .ref 1000000)], [.int r4], hh5) _
  refine xi_pop (pc' := 1014) kc_195_1013 rfl rfl ?_
  refine xi_aload_n (pc' := 1015) (x := 115) kc_195_1014 rfl rfl ?_
  obtain ⟨u12, u13, u14, u15, u16, u17, u18, u19, u20, u21, u22, u23, u24, bu12, bu13, bu14, bu15, bu16, bu17, bu18, bu19, bu20, bu21, bu22, bu23, bu24, A25⟩ := xq_115 K7.1
  refine xi_virtual (mj := 58) (as := []) (st1 := []) (lv0 := [(0, .ref 115)]) kc_195_1015 rfl rfl rfl rfl rfl A25 (Nat.le_of_ble_eq_true rfl) (hJ _ _ _ _ (by decide)) (xm_le ml_58 rfl) rfl ?_
  refine mt_58_0 hJ hov1 hov2 (d := 92)  K7.1 (fun r26 hh27 K28 => ?_)
  have br26 := xc_rng r26
  have K29 := xk_tr K7 K28 rfl
  obtain ⟨u30, u31, bu30, bu31, A32⟩ := xq_0 K29.1
  have e33 : u2 = u31 := xk_eqi (q := 9) K28 rfl A10 A32 rfl rfl
  subst e33
  obtain ⟨u34, u35, u36, u37, u38, u39, u40, u41, u42, u43, u44, u45, u46, bu34, bu35, bu36, bu37, bu38, bu39, bu40, bu41, bu42, bu43, bu44, bu45, bu46, A47⟩ := xq_115 K29.1
  have e48 : u13 = u35 := xk_eqi (q := 1) K28 rfl A25 A47 rfl rfl
  subst e48
  have e49 : u23 = u45 := xk_eqi (q := 56) K28 rfl A25 A47 rfl rfl
  subst e49
  show xw J ov 100 195 (1018, [(4, .int x4), (3, .ref 167), (2, .ref 115), (1, .ref 0), (0, .ref 1000000)], [.int r26], hh27) _
  refine xi_pop (pc' := 1019) kc_195_1018 rfl rfl ?_
  refine xi_goto (pc' := 1501) kc_195_1019 rfl ?_
  obtain ⟨v50, ev50⟩ : ∃ q : Int32, x4 + 6 = q := ⟨_, rfl⟩
  have zv50 : v50.toInt = (x4.toInt + 6) := by rw [← ev50]; exact (xz_add (X := x4.toInt) (Y := 6) rfl (by decide) (by omega) (by omega)).trans (by omega)
  refine xi_iinc (pc' := 1504) (x := x4) (v := v50) (lv' := [(4, .int v50), (3, .ref 167), (2, .ref 115), (1, .ref 0), (0, .ref 1000000)]) kc_195_1501 rfl rfl ev50 rfl (xm_lt ml_195 rfl) ?_
  refine xi_goto (pc' := 23) kc_195_1504 rfl ?_
  exact kk v50 hh27 (by omega) K29
set_option maxHeartbeats 8000000 in
theorem lc_23 {J : xe_J} {ov : List (List Int32)} (hJ : ∀ d mj as h, mj ≠ xe_loff → J d mj as h = none) (hov1 : ov[1]? = some [10, 0, 0, 0, 0, 0]) (hov2 : ov[2]? = some [99, 30, 50, 50, 1, 99999]) {xs : List Int32} (hov0 : ov[0]? = some xs) {Q : Option Value → xe_H → Prop} {h : xe_H} {x4 : Int32} (hi0 : 0 ≤ x4.toInt) (hi1 : x4.toInt + 6 ≤ xs.length) (hi2 : x4.toInt ≤ 3066) (T : xt h) (kk : ∀ (i : Int32) (h' : xe_H), i.toInt = x4.toInt + 6 → xk [(0, 9), (115, 1), (85, 8), (115, 56)] h h' → xw J ov 100 195 (23, [(4, .int i), (3, .ref 167), (2, .ref 115), (1, .ref 0), (0, .ref 1000000)], [], h') Q) : xw J ov 100 195 (1022, [(4, .int x4), (3, .ref 167), (2, .ref 115), (1, .ref 0), (0, .ref 1000000)], [], h) Q := by
  have K : xk [(0, 9), (115, 1), (85, 8), (115, 56)] h h := xk_re T
  refine xi_aload_n (pc' := 1023) (x := 0) kc_195_1022 rfl rfl ?_
  refine xi_aload_n (pc' := 1024) (x := 1000000) kc_195_1023 rfl rfl ?_
  refine xi_iload (pc' := 1026) (x := x4) kc_195_1024 rfl rfl ?_
  refine xi_iconst (pc' := 1027) (v := 1) kc_195_1026 rfl rfl ?_
  obtain ⟨v1, ev1⟩ : ∃ q : Int32, x4 + 1 = q := ⟨_, rfl⟩
  have zv1 : v1.toInt = (x4.toInt + 1) := by rw [← ev1]; exact (xz_add (X := x4.toInt) (Y := 1) rfl (by decide) (by omega) (by omega)).trans (by omega)
  refine xi_iadd (pc' := 1028) (v := v1) kc_195_1027 rfl ev1 ?_
  obtain ⟨a2, ea2⟩ : ∃ q : Int32, xs.getD (Int32.toNatClampNeg v1) 0 = q := ⟨_, rfl⟩
  have ra2 := xc_rng a2
  refine xi_ialoadO (pc' := 1029) (v := a2) kc_195_1028 rfl (by decide) hov0 (xi_in (by omega) (by omega)) ea2 ?_
  refine xi_aload_n (pc' := 1030) (x := 1000000) kc_195_1029 rfl rfl ?_
  refine xi_iload (pc' := 1032) (x := x4) kc_195_1030 rfl rfl ?_
  refine xi_iconst (pc' := 1033) (v := 2) kc_195_1032 rfl rfl ?_
  obtain ⟨v3, ev3⟩ : ∃ q : Int32, x4 + 2 = q := ⟨_, rfl⟩
  have zv3 : v3.toInt = (x4.toInt + 2) := by rw [← ev3]; exact (xz_add (X := x4.toInt) (Y := 2) rfl (by decide) (by omega) (by omega)).trans (by omega)
  refine xi_iadd (pc' := 1034) (v := v3) kc_195_1033 rfl ev3 ?_
  obtain ⟨a4, ea4⟩ : ∃ q : Int32, xs.getD (Int32.toNatClampNeg v3) 0 = q := ⟨_, rfl⟩
  have ra4 := xc_rng a4
  refine xi_ialoadO (pc' := 1035) (v := a4) kc_195_1034 rfl (by decide) hov0 (xi_in (by omega) (by omega)) ea4 ?_
  refine xi_aload_n (pc' := 1036) (x := 1000000) kc_195_1035 rfl rfl ?_
  refine xi_iload (pc' := 1038) (x := x4) kc_195_1036 rfl rfl ?_
  refine xi_iconst (pc' := 1039) (v := 3) kc_195_1038 rfl rfl ?_
  obtain ⟨v5, ev5⟩ : ∃ q : Int32, x4 + 3 = q := ⟨_, rfl⟩
  have zv5 : v5.toInt = (x4.toInt + 3) := by rw [← ev5]; exact (xz_add (X := x4.toInt) (Y := 3) rfl (by decide) (by omega) (by omega)).trans (by omega)
  refine xi_iadd (pc' := 1040) (v := v5) kc_195_1039 rfl ev5 ?_
  obtain ⟨a6, ea6⟩ : ∃ q : Int32, xs.getD (Int32.toNatClampNeg v5) 0 = q := ⟨_, rfl⟩
  have ra6 := xc_rng a6
  refine xi_ialoadO (pc' := 1041) (v := a6) kc_195_1040 rfl (by decide) hov0 (xi_in (by omega) (by omega)) ea6 ?_
  refine xi_aload_n (pc' := 1042) (x := 1000000) kc_195_1041 rfl rfl ?_
  refine xi_iload (pc' := 1044) (x := x4) kc_195_1042 rfl rfl ?_
  refine xi_iconst (pc' := 1045) (v := 4) kc_195_1044 rfl rfl ?_
  obtain ⟨v7, ev7⟩ : ∃ q : Int32, x4 + 4 = q := ⟨_, rfl⟩
  have zv7 : v7.toInt = (x4.toInt + 4) := by rw [← ev7]; exact (xz_add (X := x4.toInt) (Y := 4) rfl (by decide) (by omega) (by omega)).trans (by omega)
  refine xi_iadd (pc' := 1046) (v := v7) kc_195_1045 rfl ev7 ?_
  obtain ⟨a8, ea8⟩ : ∃ q : Int32, xs.getD (Int32.toNatClampNeg v7) 0 = q := ⟨_, rfl⟩
  have ra8 := xc_rng a8
  refine xi_ialoadO (pc' := 1047) (v := a8) kc_195_1046 rfl (by decide) hov0 (xi_in (by omega) (by omega)) ea8 ?_
  refine xi_aload_n (pc' := 1048) (x := 1000000) kc_195_1047 rfl rfl ?_
  refine xi_iload (pc' := 1050) (x := x4) kc_195_1048 rfl rfl ?_
  refine xi_iconst (pc' := 1051) (v := 5) kc_195_1050 rfl rfl ?_
  obtain ⟨v9, ev9⟩ : ∃ q : Int32, x4 + 5 = q := ⟨_, rfl⟩
  have zv9 : v9.toInt = (x4.toInt + 5) := by rw [← ev9]; exact (xz_add (X := x4.toInt) (Y := 5) rfl (by decide) (by omega) (by omega)).trans (by omega)
  refine xi_iadd (pc' := 1052) (v := v9) kc_195_1051 rfl ev9 ?_
  obtain ⟨a10, ea10⟩ : ∃ q : Int32, xs.getD (Int32.toNatClampNeg v9) 0 = q := ⟨_, rfl⟩
  have ra10 := xc_rng a10
  refine xi_ialoadO (pc' := 1053) (v := a10) kc_195_1052 rfl (by decide) hov0 (xi_in (by omega) (by omega)) ea10 ?_
  obtain ⟨u11, u12, bu11, bu12, A13⟩ := xq_0 K.1
  refine xi_virtual (mj := 163) (as := [.int a2, .int a4, .int a6, .int a8, .int a10]) (st1 := []) (lv0 := [(0, .ref 0), (1, .int a2), (2, .int a4), (3, .int a6), (4, .int a8), (5, .int a10)]) kc_195_1053 rfl rfl rfl rfl rfl A13 (Nat.le_of_ble_eq_true rfl) (hJ _ _ _ _ (by decide)) (xm_le ml_163 rfl) rfl ?_
  refine mt_163_0 hJ hov1 hov2 (d := 97) (x1 := a2) (x2 := a4) (x3 := a6) (x4 := a8) (x5 := a10) K.1 (fun r14 hh15 br14 K16 => ?_)
  have K17 := xk_tr K K16 rfl
  obtain ⟨u18, u19, bu18, bu19, A20⟩ := xq_0 K17.1
  have e21 : u12 = u19 := xk_eqi (q := 9) K16 rfl A13 A20 rfl rfl
  subst e21
  show xw J ov 100 195 (1056, [(4, .int x4), (3, .ref 167), (2, .ref 115), (1, .ref 0), (0, .ref 1000000)], [.int r14], hh15) _
  refine xi_pop (pc' := 1057) kc_195_1056 rfl rfl ?_
  refine xi_aload_n (pc' := 1058) (x := 115) kc_195_1057 rfl rfl ?_
  refine xi_aload_n (pc' := 1059) (x := 1000000) kc_195_1058 rfl rfl ?_
  refine xi_iload (pc' := 1061) (x := x4) kc_195_1059 rfl rfl ?_
  refine xi_iconst (pc' := 1062) (v := 1) kc_195_1061 rfl rfl ?_
  refine xi_iadd (pc' := 1063) (v := v1) kc_195_1062 rfl ev1 ?_
  refine xi_ialoadO (pc' := 1064) (v := a2) kc_195_1063 rfl (by decide) hov0 (xi_in (by omega) (by omega)) ea2 ?_
  refine xi_aload_n (pc' := 1065) (x := 1000000) kc_195_1064 rfl rfl ?_
  refine xi_iload (pc' := 1067) (x := x4) kc_195_1065 rfl rfl ?_
  refine xi_iconst (pc' := 1068) (v := 2) kc_195_1067 rfl rfl ?_
  refine xi_iadd (pc' := 1069) (v := v3) kc_195_1068 rfl ev3 ?_
  refine xi_ialoadO (pc' := 1070) (v := a4) kc_195_1069 rfl (by decide) hov0 (xi_in (by omega) (by omega)) ea4 ?_
  refine xi_aload_n (pc' := 1071) (x := 1000000) kc_195_1070 rfl rfl ?_
  refine xi_iload (pc' := 1073) (x := x4) kc_195_1071 rfl rfl ?_
  refine xi_iconst (pc' := 1074) (v := 3) kc_195_1073 rfl rfl ?_
  refine xi_iadd (pc' := 1075) (v := v5) kc_195_1074 rfl ev5 ?_
  refine xi_ialoadO (pc' := 1076) (v := a6) kc_195_1075 rfl (by decide) hov0 (xi_in (by omega) (by omega)) ea6 ?_
  refine xi_aload_n (pc' := 1077) (x := 1000000) kc_195_1076 rfl rfl ?_
  refine xi_iload (pc' := 1079) (x := x4) kc_195_1077 rfl rfl ?_
  refine xi_iconst (pc' := 1080) (v := 4) kc_195_1079 rfl rfl ?_
  refine xi_iadd (pc' := 1081) (v := v7) kc_195_1080 rfl ev7 ?_
  refine xi_ialoadO (pc' := 1082) (v := a8) kc_195_1081 rfl (by decide) hov0 (xi_in (by omega) (by omega)) ea8 ?_
  refine xi_aload_n (pc' := 1083) (x := 1000000) kc_195_1082 rfl rfl ?_
  refine xi_iload (pc' := 1085) (x := x4) kc_195_1083 rfl rfl ?_
  refine xi_iconst (pc' := 1086) (v := 5) kc_195_1085 rfl rfl ?_
  refine xi_iadd (pc' := 1087) (v := v9) kc_195_1086 rfl ev9 ?_
  refine xi_ialoadO (pc' := 1088) (v := a10) kc_195_1087 rfl (by decide) hov0 (xi_in (by omega) (by omega)) ea10 ?_
  obtain ⟨u22, u23, u24, u25, u26, u27, u28, u29, u30, u31, u32, u33, u34, bu22, bu23, bu24, bu25, bu26, bu27, bu28, bu29, bu30, bu31, bu32, bu33, bu34, A35⟩ := xq_115 K17.1
  refine xi_virtual (mj := 61) (as := [.int a2, .int a4, .int a6, .int a8, .int a10]) (st1 := []) (lv0 := [(0, .ref 115), (1, .int a2), (2, .int a4), (3, .int a6), (4, .int a8), (5, .int a10)]) kc_195_1088 rfl rfl rfl rfl rfl A35 (Nat.le_of_ble_eq_true rfl) (hJ _ _ _ _ (by decide)) (xm_le ml_61 rfl) rfl ?_
  refine mt_61_0 hJ hov1 hov2 (d := 97) (x1 := a2) (x2 := a4) (x3 := a6) (x4 := a8) (x5 := a10) K17.1 (fun r36 hh37 br36 K38 => ?_)
  have K39 := xk_tr K17 K38 rfl
  obtain ⟨u40, u41, bu40, bu41, A42⟩ := xq_0 K39.1
  have e43 : u12 = u41 := xk_eqi (q := 9) K38 rfl A20 A42 rfl rfl
  subst e43
  obtain ⟨u44, u45, u46, u47, u48, u49, u50, u51, u52, u53, u54, u55, u56, bu44, bu45, bu46, bu47, bu48, bu49, bu50, bu51, bu52, bu53, bu54, bu55, bu56, A57⟩ := xq_115 K39.1
  have e58 : u23 = u45 := xk_eqi (q := 1) K38 rfl A35 A57 rfl rfl
  subst e58
  have e59 : u33 = u55 := xk_eqi (q := 56) K38 rfl A35 A57 rfl rfl
  subst e59
  show xw J ov 100 195 (1091, [(4, .int x4), (3, .ref 167), (2, .ref 115), (1, .ref 0), (0, .ref 1000000)], [.int r36], hh37) _
  refine xi_pop (pc' := 1092) kc_195_1091 rfl rfl ?_
  refine xi_goto (pc' := 1501) kc_195_1092 rfl ?_
  obtain ⟨v60, ev60⟩ : ∃ q : Int32, x4 + 6 = q := ⟨_, rfl⟩
  have zv60 : v60.toInt = (x4.toInt + 6) := by rw [← ev60]; exact (xz_add (X := x4.toInt) (Y := 6) rfl (by decide) (by omega) (by omega)).trans (by omega)
  refine xi_iinc (pc' := 1504) (x := x4) (v := v60) (lv' := [(4, .int v60), (3, .ref 167), (2, .ref 115), (1, .ref 0), (0, .ref 1000000)]) kc_195_1501 rfl rfl ev60 rfl (xm_lt ml_195 rfl) ?_
  refine xi_goto (pc' := 23) kc_195_1504 rfl ?_
  exact kk v60 hh37 (by omega) K39
set_option maxHeartbeats 8000000 in
theorem lc_24 {J : xe_J} {ov : List (List Int32)} (hJ : ∀ d mj as h, mj ≠ xe_loff → J d mj as h = none) (hov1 : ov[1]? = some [10, 0, 0, 0, 0, 0]) (hov2 : ov[2]? = some [99, 30, 50, 50, 1, 99999]) {xs : List Int32} (hov0 : ov[0]? = some xs) {Q : Option Value → xe_H → Prop} {h : xe_H} {x4 : Int32} (hi0 : 0 ≤ x4.toInt) (hi1 : x4.toInt + 6 ≤ xs.length) (hi2 : x4.toInt ≤ 3066) (T : xt h) (kk : ∀ (i : Int32) (h' : xe_H), i.toInt = x4.toInt + 6 → xk [(0, 9), (115, 1), (85, 8), (115, 56)] h h' → xw J ov 100 195 (23, [(4, .int i), (3, .ref 167), (2, .ref 115), (1, .ref 0), (0, .ref 1000000)], [], h') Q) : xw J ov 100 195 (1095, [(4, .int x4), (3, .ref 167), (2, .ref 115), (1, .ref 0), (0, .ref 1000000)], [], h) Q := by
  have K : xk [(0, 9), (115, 1), (85, 8), (115, 56)] h h := xk_re T
  refine xi_aload_n (pc' := 1096) (x := 0) kc_195_1095 rfl rfl ?_
  refine xi_aload_n (pc' := 1097) (x := 1000000) kc_195_1096 rfl rfl ?_
  refine xi_iload (pc' := 1099) (x := x4) kc_195_1097 rfl rfl ?_
  refine xi_iconst (pc' := 1100) (v := 1) kc_195_1099 rfl rfl ?_
  obtain ⟨v1, ev1⟩ : ∃ q : Int32, x4 + 1 = q := ⟨_, rfl⟩
  have zv1 : v1.toInt = (x4.toInt + 1) := by rw [← ev1]; exact (xz_add (X := x4.toInt) (Y := 1) rfl (by decide) (by omega) (by omega)).trans (by omega)
  refine xi_iadd (pc' := 1101) (v := v1) kc_195_1100 rfl ev1 ?_
  obtain ⟨a2, ea2⟩ : ∃ q : Int32, xs.getD (Int32.toNatClampNeg v1) 0 = q := ⟨_, rfl⟩
  have ra2 := xc_rng a2
  refine xi_ialoadO (pc' := 1102) (v := a2) kc_195_1101 rfl (by decide) hov0 (xi_in (by omega) (by omega)) ea2 ?_
  refine xi_aload_n (pc' := 1103) (x := 1000000) kc_195_1102 rfl rfl ?_
  refine xi_iload (pc' := 1105) (x := x4) kc_195_1103 rfl rfl ?_
  refine xi_iconst (pc' := 1106) (v := 2) kc_195_1105 rfl rfl ?_
  obtain ⟨v3, ev3⟩ : ∃ q : Int32, x4 + 2 = q := ⟨_, rfl⟩
  have zv3 : v3.toInt = (x4.toInt + 2) := by rw [← ev3]; exact (xz_add (X := x4.toInt) (Y := 2) rfl (by decide) (by omega) (by omega)).trans (by omega)
  refine xi_iadd (pc' := 1107) (v := v3) kc_195_1106 rfl ev3 ?_
  obtain ⟨a4, ea4⟩ : ∃ q : Int32, xs.getD (Int32.toNatClampNeg v3) 0 = q := ⟨_, rfl⟩
  have ra4 := xc_rng a4
  refine xi_ialoadO (pc' := 1108) (v := a4) kc_195_1107 rfl (by decide) hov0 (xi_in (by omega) (by omega)) ea4 ?_
  obtain ⟨u5, u6, bu5, bu6, A7⟩ := xq_0 K.1
  refine xi_virtual (mj := 165) (as := [.int a2, .int a4]) (st1 := []) (lv0 := [(0, .ref 0), (1, .int a2), (2, .int a4)]) kc_195_1108 rfl rfl rfl rfl rfl A7 (Nat.le_of_ble_eq_true rfl) (hJ _ _ _ _ (by decide)) (xm_le ml_165 rfl) rfl ?_
  refine mt_165_0 hJ hov1 hov2 (d := 97) (x1 := a2) (x2 := a4) K.1 (fun r8 hh9 K10 => ?_)
  have br8 := xc_rng r8
  have K11 := xk_tr K K10 rfl
  obtain ⟨u12, u13, bu12, bu13, A14⟩ := xq_0 K11.1
  have e15 : u6 = u13 := xk_eqi (q := 9) K10 rfl A7 A14 rfl rfl
  subst e15
  show xw J ov 100 195 (1111, [(4, .int x4), (3, .ref 167), (2, .ref 115), (1, .ref 0), (0, .ref 1000000)], [.int r8], hh9) _
  refine xi_pop (pc' := 1112) kc_195_1111 rfl rfl ?_
  refine xi_aload_n (pc' := 1113) (x := 115) kc_195_1112 rfl rfl ?_
  refine xi_aload_n (pc' := 1114) (x := 1000000) kc_195_1113 rfl rfl ?_
  refine xi_iload (pc' := 1116) (x := x4) kc_195_1114 rfl rfl ?_
  refine xi_iconst (pc' := 1117) (v := 1) kc_195_1116 rfl rfl ?_
  refine xi_iadd (pc' := 1118) (v := v1) kc_195_1117 rfl ev1 ?_
  refine xi_ialoadO (pc' := 1119) (v := a2) kc_195_1118 rfl (by decide) hov0 (xi_in (by omega) (by omega)) ea2 ?_
  refine xi_aload_n (pc' := 1120) (x := 1000000) kc_195_1119 rfl rfl ?_
  refine xi_iload (pc' := 1122) (x := x4) kc_195_1120 rfl rfl ?_
  refine xi_iconst (pc' := 1123) (v := 2) kc_195_1122 rfl rfl ?_
  refine xi_iadd (pc' := 1124) (v := v3) kc_195_1123 rfl ev3 ?_
  refine xi_ialoadO (pc' := 1125) (v := a4) kc_195_1124 rfl (by decide) hov0 (xi_in (by omega) (by omega)) ea4 ?_
  obtain ⟨u16, u17, u18, u19, u20, u21, u22, u23, u24, u25, u26, u27, u28, bu16, bu17, bu18, bu19, bu20, bu21, bu22, bu23, bu24, bu25, bu26, bu27, bu28, A29⟩ := xq_115 K11.1
  refine xi_virtual (mj := 62) (as := [.int a2, .int a4]) (st1 := []) (lv0 := [(0, .ref 115), (1, .int a2), (2, .int a4)]) kc_195_1125 rfl rfl rfl rfl rfl A29 (Nat.le_of_ble_eq_true rfl) (hJ _ _ _ _ (by decide)) (xm_le ml_62 rfl) rfl ?_
  refine mt_62_0 hJ hov1 hov2 (d := 97) (x1 := a2) (x2 := a4) K11.1 (fun r30 hh31 K32 => ?_)
  have br30 := xc_rng r30
  have K33 := xk_tr K11 K32 rfl
  obtain ⟨u34, u35, bu34, bu35, A36⟩ := xq_0 K33.1
  have e37 : u6 = u35 := xk_eqi (q := 9) K32 rfl A14 A36 rfl rfl
  subst e37
  obtain ⟨u38, u39, u40, u41, u42, u43, u44, u45, u46, u47, u48, u49, u50, bu38, bu39, bu40, bu41, bu42, bu43, bu44, bu45, bu46, bu47, bu48, bu49, bu50, A51⟩ := xq_115 K33.1
  have e52 : u17 = u39 := xk_eqi (q := 1) K32 rfl A29 A51 rfl rfl
  subst e52
  have e53 : u27 = u49 := xk_eqi (q := 56) K32 rfl A29 A51 rfl rfl
  subst e53
  show xw J ov 100 195 (1128, [(4, .int x4), (3, .ref 167), (2, .ref 115), (1, .ref 0), (0, .ref 1000000)], [.int r30], hh31) _
  refine xi_pop (pc' := 1129) kc_195_1128 rfl rfl ?_
  refine xi_goto (pc' := 1501) kc_195_1129 rfl ?_
  obtain ⟨v54, ev54⟩ : ∃ q : Int32, x4 + 6 = q := ⟨_, rfl⟩
  have zv54 : v54.toInt = (x4.toInt + 6) := by rw [← ev54]; exact (xz_add (X := x4.toInt) (Y := 6) rfl (by decide) (by omega) (by omega)).trans (by omega)
  refine xi_iinc (pc' := 1504) (x := x4) (v := v54) (lv' := [(4, .int v54), (3, .ref 167), (2, .ref 115), (1, .ref 0), (0, .ref 1000000)]) kc_195_1501 rfl rfl ev54 rfl (xm_lt ml_195 rfl) ?_
  refine xi_goto (pc' := 23) kc_195_1504 rfl ?_
  exact kk v54 hh31 (by omega) K33
set_option maxHeartbeats 8000000 in
theorem lc_25 {J : xe_J} {ov : List (List Int32)} (hJ : ∀ d mj as h, mj ≠ xe_loff → J d mj as h = none) (hov1 : ov[1]? = some [10, 0, 0, 0, 0, 0]) (hov2 : ov[2]? = some [99, 30, 50, 50, 1, 99999]) {xs : List Int32} (hov0 : ov[0]? = some xs) {Q : Option Value → xe_H → Prop} {h : xe_H} {x4 : Int32} (hi0 : 0 ≤ x4.toInt) (hi1 : x4.toInt + 6 ≤ xs.length) (hi2 : x4.toInt ≤ 3066) (T : xt h) (kk : ∀ (i : Int32) (h' : xe_H), i.toInt = x4.toInt + 6 → xk [(0, 9), (115, 1), (85, 8), (115, 56)] h h' → xw J ov 100 195 (23, [(4, .int i), (3, .ref 167), (2, .ref 115), (1, .ref 0), (0, .ref 1000000)], [], h') Q) : xw J ov 100 195 (1132, [(4, .int x4), (3, .ref 167), (2, .ref 115), (1, .ref 0), (0, .ref 1000000)], [], h) Q := by
  have K : xk [(0, 9), (115, 1), (85, 8), (115, 56)] h h := xk_re T
  refine xi_aload_n (pc' := 1133) (x := 0) kc_195_1132 rfl rfl ?_
  refine xi_aload_n (pc' := 1134) (x := 1000000) kc_195_1133 rfl rfl ?_
  refine xi_iload (pc' := 1136) (x := x4) kc_195_1134 rfl rfl ?_
  refine xi_iconst (pc' := 1137) (v := 1) kc_195_1136 rfl rfl ?_
  obtain ⟨v1, ev1⟩ : ∃ q : Int32, x4 + 1 = q := ⟨_, rfl⟩
  have zv1 : v1.toInt = (x4.toInt + 1) := by rw [← ev1]; exact (xz_add (X := x4.toInt) (Y := 1) rfl (by decide) (by omega) (by omega)).trans (by omega)
  refine xi_iadd (pc' := 1138) (v := v1) kc_195_1137 rfl ev1 ?_
  obtain ⟨a2, ea2⟩ : ∃ q : Int32, xs.getD (Int32.toNatClampNeg v1) 0 = q := ⟨_, rfl⟩
  have ra2 := xc_rng a2
  refine xi_ialoadO (pc' := 1139) (v := a2) kc_195_1138 rfl (by decide) hov0 (xi_in (by omega) (by omega)) ea2 ?_
  refine xi_aload_n (pc' := 1140) (x := 1000000) kc_195_1139 rfl rfl ?_
  refine xi_iload (pc' := 1142) (x := x4) kc_195_1140 rfl rfl ?_
  refine xi_iconst (pc' := 1143) (v := 2) kc_195_1142 rfl rfl ?_
  obtain ⟨v3, ev3⟩ : ∃ q : Int32, x4 + 2 = q := ⟨_, rfl⟩
  have zv3 : v3.toInt = (x4.toInt + 2) := by rw [← ev3]; exact (xz_add (X := x4.toInt) (Y := 2) rfl (by decide) (by omega) (by omega)).trans (by omega)
  refine xi_iadd (pc' := 1144) (v := v3) kc_195_1143 rfl ev3 ?_
  obtain ⟨a4, ea4⟩ : ∃ q : Int32, xs.getD (Int32.toNatClampNeg v3) 0 = q := ⟨_, rfl⟩
  have ra4 := xc_rng a4
  refine xi_ialoadO (pc' := 1145) (v := a4) kc_195_1144 rfl (by decide) hov0 (xi_in (by omega) (by omega)) ea4 ?_
  refine xi_aload_n (pc' := 1146) (x := 1000000) kc_195_1145 rfl rfl ?_
  refine xi_iload (pc' := 1148) (x := x4) kc_195_1146 rfl rfl ?_
  refine xi_iconst (pc' := 1149) (v := 3) kc_195_1148 rfl rfl ?_
  obtain ⟨v5, ev5⟩ : ∃ q : Int32, x4 + 3 = q := ⟨_, rfl⟩
  have zv5 : v5.toInt = (x4.toInt + 3) := by rw [← ev5]; exact (xz_add (X := x4.toInt) (Y := 3) rfl (by decide) (by omega) (by omega)).trans (by omega)
  refine xi_iadd (pc' := 1150) (v := v5) kc_195_1149 rfl ev5 ?_
  obtain ⟨a6, ea6⟩ : ∃ q : Int32, xs.getD (Int32.toNatClampNeg v5) 0 = q := ⟨_, rfl⟩
  have ra6 := xc_rng a6
  refine xi_ialoadO (pc' := 1151) (v := a6) kc_195_1150 rfl (by decide) hov0 (xi_in (by omega) (by omega)) ea6 ?_
  refine xi_aload_n (pc' := 1152) (x := 1000000) kc_195_1151 rfl rfl ?_
  refine xi_iload (pc' := 1154) (x := x4) kc_195_1152 rfl rfl ?_
  refine xi_iconst (pc' := 1155) (v := 4) kc_195_1154 rfl rfl ?_
  obtain ⟨v7, ev7⟩ : ∃ q : Int32, x4 + 4 = q := ⟨_, rfl⟩
  have zv7 : v7.toInt = (x4.toInt + 4) := by rw [← ev7]; exact (xz_add (X := x4.toInt) (Y := 4) rfl (by decide) (by omega) (by omega)).trans (by omega)
  refine xi_iadd (pc' := 1156) (v := v7) kc_195_1155 rfl ev7 ?_
  obtain ⟨a8, ea8⟩ : ∃ q : Int32, xs.getD (Int32.toNatClampNeg v7) 0 = q := ⟨_, rfl⟩
  have ra8 := xc_rng a8
  refine xi_ialoadO (pc' := 1157) (v := a8) kc_195_1156 rfl (by decide) hov0 (xi_in (by omega) (by omega)) ea8 ?_
  obtain ⟨u9, u10, bu9, bu10, A11⟩ := xq_0 K.1
  refine xi_virtual (mj := 167) (as := [.int a2, .int a4, .int a6, .int a8]) (st1 := []) (lv0 := [(0, .ref 0), (1, .int a2), (2, .int a4), (3, .int a6), (4, .int a8)]) kc_195_1157 rfl rfl rfl rfl rfl A11 (Nat.le_of_ble_eq_true rfl) (hJ _ _ _ _ (by decide)) (xm_le ml_167 rfl) rfl ?_
  refine mt_167_0 hJ hov1 hov2 (d := 98) (x1 := a2) (x2 := a4) (x3 := a6) (x4 := a8) K.1 (fun r12 hh13 br12 K14 => ?_)
  have K15 := xk_tr K K14 rfl
  obtain ⟨u16, u17, bu16, bu17, A18⟩ := xq_0 K15.1
  have e19 : u10 = u17 := xk_eqi (q := 9) K14 rfl A11 A18 rfl rfl
  subst e19
  show xw J ov 100 195 (1160, [(4, .int x4), (3, .ref 167), (2, .ref 115), (1, .ref 0), (0, .ref 1000000)], [.int r12], hh13) _
  refine xi_pop (pc' := 1161) kc_195_1160 rfl rfl ?_
  refine xi_aload_n (pc' := 1162) (x := 115) kc_195_1161 rfl rfl ?_
  refine xi_aload_n (pc' := 1163) (x := 1000000) kc_195_1162 rfl rfl ?_
  refine xi_iload (pc' := 1165) (x := x4) kc_195_1163 rfl rfl ?_
  refine xi_iconst (pc' := 1166) (v := 1) kc_195_1165 rfl rfl ?_
  refine xi_iadd (pc' := 1167) (v := v1) kc_195_1166 rfl ev1 ?_
  refine xi_ialoadO (pc' := 1168) (v := a2) kc_195_1167 rfl (by decide) hov0 (xi_in (by omega) (by omega)) ea2 ?_
  refine xi_aload_n (pc' := 1169) (x := 1000000) kc_195_1168 rfl rfl ?_
  refine xi_iload (pc' := 1171) (x := x4) kc_195_1169 rfl rfl ?_
  refine xi_iconst (pc' := 1172) (v := 2) kc_195_1171 rfl rfl ?_
  refine xi_iadd (pc' := 1173) (v := v3) kc_195_1172 rfl ev3 ?_
  refine xi_ialoadO (pc' := 1174) (v := a4) kc_195_1173 rfl (by decide) hov0 (xi_in (by omega) (by omega)) ea4 ?_
  refine xi_aload_n (pc' := 1175) (x := 1000000) kc_195_1174 rfl rfl ?_
  refine xi_iload (pc' := 1177) (x := x4) kc_195_1175 rfl rfl ?_
  refine xi_iconst (pc' := 1178) (v := 3) kc_195_1177 rfl rfl ?_
  refine xi_iadd (pc' := 1179) (v := v5) kc_195_1178 rfl ev5 ?_
  refine xi_ialoadO (pc' := 1180) (v := a6) kc_195_1179 rfl (by decide) hov0 (xi_in (by omega) (by omega)) ea6 ?_
  refine xi_aload_n (pc' := 1181) (x := 1000000) kc_195_1180 rfl rfl ?_
  refine xi_iload (pc' := 1183) (x := x4) kc_195_1181 rfl rfl ?_
  refine xi_iconst (pc' := 1184) (v := 4) kc_195_1183 rfl rfl ?_
  refine xi_iadd (pc' := 1185) (v := v7) kc_195_1184 rfl ev7 ?_
  refine xi_ialoadO (pc' := 1186) (v := a8) kc_195_1185 rfl (by decide) hov0 (xi_in (by omega) (by omega)) ea8 ?_
  obtain ⟨u20, u21, u22, u23, u24, u25, u26, u27, u28, u29, u30, u31, u32, bu20, bu21, bu22, bu23, bu24, bu25, bu26, bu27, bu28, bu29, bu30, bu31, bu32, A33⟩ := xq_115 K15.1
  refine xi_virtual (mj := 64) (as := [.int a2, .int a4, .int a6, .int a8]) (st1 := []) (lv0 := [(0, .ref 115), (1, .int a2), (2, .int a4), (3, .int a6), (4, .int a8)]) kc_195_1186 rfl rfl rfl rfl rfl A33 (Nat.le_of_ble_eq_true rfl) (hJ _ _ _ _ (by decide)) (xm_le ml_64 rfl) rfl ?_
  refine mt_64_0 hJ hov1 hov2 (d := 98) (x1 := a2) (x2 := a4) (x3 := a6) (x4 := a8) K15.1 (fun r34 hh35 br34 K36 => ?_)
  have K37 := xk_tr K15 K36 rfl
  obtain ⟨u38, u39, bu38, bu39, A40⟩ := xq_0 K37.1
  have e41 : u10 = u39 := xk_eqi (q := 9) K36 rfl A18 A40 rfl rfl
  subst e41
  obtain ⟨u42, u43, u44, u45, u46, u47, u48, u49, u50, u51, u52, u53, u54, bu42, bu43, bu44, bu45, bu46, bu47, bu48, bu49, bu50, bu51, bu52, bu53, bu54, A55⟩ := xq_115 K37.1
  have e56 : u21 = u43 := xk_eqi (q := 1) K36 rfl A33 A55 rfl rfl
  subst e56
  have e57 : u31 = u53 := xk_eqi (q := 56) K36 rfl A33 A55 rfl rfl
  subst e57
  show xw J ov 100 195 (1189, [(4, .int x4), (3, .ref 167), (2, .ref 115), (1, .ref 0), (0, .ref 1000000)], [.int r34], hh35) _
  refine xi_pop (pc' := 1190) kc_195_1189 rfl rfl ?_
  refine xi_goto (pc' := 1501) kc_195_1190 rfl ?_
  obtain ⟨v58, ev58⟩ : ∃ q : Int32, x4 + 6 = q := ⟨_, rfl⟩
  have zv58 : v58.toInt = (x4.toInt + 6) := by rw [← ev58]; exact (xz_add (X := x4.toInt) (Y := 6) rfl (by decide) (by omega) (by omega)).trans (by omega)
  refine xi_iinc (pc' := 1504) (x := x4) (v := v58) (lv' := [(4, .int v58), (3, .ref 167), (2, .ref 115), (1, .ref 0), (0, .ref 1000000)]) kc_195_1501 rfl rfl ev58 rfl (xm_lt ml_195 rfl) ?_
  refine xi_goto (pc' := 23) kc_195_1504 rfl ?_
  exact kk v58 hh35 (by omega) K37
set_option maxHeartbeats 8000000 in
theorem lc_26 {J : xe_J} {ov : List (List Int32)} (hJ : ∀ d mj as h, mj ≠ xe_loff → J d mj as h = none) (hov1 : ov[1]? = some [10, 0, 0, 0, 0, 0]) (hov2 : ov[2]? = some [99, 30, 50, 50, 1, 99999]) {xs : List Int32} (hov0 : ov[0]? = some xs) {Q : Option Value → xe_H → Prop} {h : xe_H} {x4 : Int32} (hi0 : 0 ≤ x4.toInt) (hi1 : x4.toInt + 6 ≤ xs.length) (hi2 : x4.toInt ≤ 3066) (T : xt h) (kk : ∀ (i : Int32) (h' : xe_H), i.toInt = x4.toInt + 6 → xk [(0, 9), (115, 1), (85, 8), (115, 56)] h h' → xw J ov 100 195 (23, [(4, .int i), (3, .ref 167), (2, .ref 115), (1, .ref 0), (0, .ref 1000000)], [], h') Q) : xw J ov 100 195 (1193, [(4, .int x4), (3, .ref 167), (2, .ref 115), (1, .ref 0), (0, .ref 1000000)], [], h) Q := by
  have K : xk [(0, 9), (115, 1), (85, 8), (115, 56)] h h := xk_re T
  refine xi_aload_n (pc' := 1194) (x := 0) kc_195_1193 rfl rfl ?_
  obtain ⟨u1, u2, bu1, bu2, A3⟩ := xq_0 K.1
  refine xi_virtual (mj := 169) (as := []) (st1 := []) (lv0 := [(0, .ref 0)]) kc_195_1194 rfl rfl rfl rfl rfl A3 (Nat.le_of_ble_eq_true rfl) (hJ _ _ _ _ (by decide)) (xm_le ml_169 rfl) rfl ?_
  refine mt_169_0 hJ hov1 hov2 (d := 95)  K.1 (fun r4 hh5 K6 => ?_)
  have br4 := xc_rng r4
  have K7 := xk_tr K K6 rfl
  obtain ⟨u8, u9, bu8, bu9, A10⟩ := xq_0 K7.1
  have e11 : u2 = u9 := xk_eqi (q := 9) K6 rfl A3 A10 rfl rfl
  subst e11
  show xw J ov 100 195 (1197, [(4, .int x4), (3, .ref 167), (2, .ref 115), (1, .ref 0), (0, .ref 1000000)], [.int r4], hh5) _
  refine xi_pop (pc' := 1198) kc_195_1197 rfl rfl ?_
  refine xi_aload_n (pc' := 1199) (x := 115) kc_195_1198 rfl rfl ?_
  obtain ⟨u12, u13, u14, u15, u16, u17, u18, u19, u20, u21, u22, u23, u24, bu12, bu13, bu14, bu15, bu16, bu17, bu18, bu19, bu20, bu21, bu22, bu23, bu24, A25⟩ := xq_115 K7.1
  refine xi_virtual (mj := 65) (as := []) (st1 := []) (lv0 := [(0, .ref 115)]) kc_195_1199 rfl rfl rfl rfl rfl A25 (Nat.le_of_ble_eq_true rfl) (hJ _ _ _ _ (by decide)) (xm_le ml_65 rfl) rfl ?_
  refine mt_65_0 hJ hov1 hov2 (d := 97)  K7.1 (fun r26 hh27 K28 => ?_)
  have br26 := xc_rng r26
  have K29 := xk_tr K7 K28 rfl
  obtain ⟨u30, u31, bu30, bu31, A32⟩ := xq_0 K29.1
  have e33 : u2 = u31 := xk_eqi (q := 9) K28 rfl A10 A32 rfl rfl
  subst e33
  obtain ⟨u34, u35, u36, u37, u38, u39, u40, u41, u42, u43, u44, u45, u46, bu34, bu35, bu36, bu37, bu38, bu39, bu40, bu41, bu42, bu43, bu44, bu45, bu46, A47⟩ := xq_115 K29.1
  have e48 : u13 = u35 := xk_eqi (q := 1) K28 rfl A25 A47 rfl rfl
  subst e48
  have e49 : u23 = u45 := xk_eqi (q := 56) K28 rfl A25 A47 rfl rfl
  subst e49
  show xw J ov 100 195 (1202, [(4, .int x4), (3, .ref 167), (2, .ref 115), (1, .ref 0), (0, .ref 1000000)], [.int r26], hh27) _
  refine xi_pop (pc' := 1203) kc_195_1202 rfl rfl ?_
  refine xi_goto (pc' := 1501) kc_195_1203 rfl ?_
  obtain ⟨v50, ev50⟩ : ∃ q : Int32, x4 + 6 = q := ⟨_, rfl⟩
  have zv50 : v50.toInt = (x4.toInt + 6) := by rw [← ev50]; exact (xz_add (X := x4.toInt) (Y := 6) rfl (by decide) (by omega) (by omega)).trans (by omega)
  refine xi_iinc (pc' := 1504) (x := x4) (v := v50) (lv' := [(4, .int v50), (3, .ref 167), (2, .ref 115), (1, .ref 0), (0, .ref 1000000)]) kc_195_1501 rfl rfl ev50 rfl (xm_lt ml_195 rfl) ?_
  refine xi_goto (pc' := 23) kc_195_1504 rfl ?_
  exact kk v50 hh27 (by omega) K29
set_option maxHeartbeats 8000000 in
theorem lc_27 {J : xe_J} {ov : List (List Int32)} (hJ : ∀ d mj as h, mj ≠ xe_loff → J d mj as h = none) (hov1 : ov[1]? = some [10, 0, 0, 0, 0, 0]) (hov2 : ov[2]? = some [99, 30, 50, 50, 1, 99999]) {xs : List Int32} (hov0 : ov[0]? = some xs) {Q : Option Value → xe_H → Prop} {h : xe_H} {x4 : Int32} (hi0 : 0 ≤ x4.toInt) (hi1 : x4.toInt + 6 ≤ xs.length) (hi2 : x4.toInt ≤ 3066) (T : xt h) (kk : ∀ (i : Int32) (h' : xe_H), i.toInt = x4.toInt + 6 → xk [(0, 9), (115, 1), (85, 8), (115, 56)] h h' → xw J ov 100 195 (23, [(4, .int i), (3, .ref 167), (2, .ref 115), (1, .ref 0), (0, .ref 1000000)], [], h') Q) : xw J ov 100 195 (1206, [(4, .int x4), (3, .ref 167), (2, .ref 115), (1, .ref 0), (0, .ref 1000000)], [], h) Q := by
  have K : xk [(0, 9), (115, 1), (85, 8), (115, 56)] h h := xk_re T
  refine xi_aload_n (pc' := 1207) (x := 0) kc_195_1206 rfl rfl ?_
  refine xi_aload_n (pc' := 1208) (x := 1000000) kc_195_1207 rfl rfl ?_
  refine xi_iload (pc' := 1210) (x := x4) kc_195_1208 rfl rfl ?_
  refine xi_iconst (pc' := 1211) (v := 1) kc_195_1210 rfl rfl ?_
  obtain ⟨v1, ev1⟩ : ∃ q : Int32, x4 + 1 = q := ⟨_, rfl⟩
  have zv1 : v1.toInt = (x4.toInt + 1) := by rw [← ev1]; exact (xz_add (X := x4.toInt) (Y := 1) rfl (by decide) (by omega) (by omega)).trans (by omega)
  refine xi_iadd (pc' := 1212) (v := v1) kc_195_1211 rfl ev1 ?_
  obtain ⟨a2, ea2⟩ : ∃ q : Int32, xs.getD (Int32.toNatClampNeg v1) 0 = q := ⟨_, rfl⟩
  have ra2 := xc_rng a2
  refine xi_ialoadO (pc' := 1213) (v := a2) kc_195_1212 rfl (by decide) hov0 (xi_in (by omega) (by omega)) ea2 ?_
  obtain ⟨u3, u4, bu3, bu4, A5⟩ := xq_0 K.1
  refine xi_virtual (mj := 172) (as := [.int a2]) (st1 := []) (lv0 := [(0, .ref 0), (1, .int a2)]) kc_195_1213 rfl rfl rfl rfl rfl A5 (Nat.le_of_ble_eq_true rfl) (hJ _ _ _ _ (by decide)) (xm_le ml_172 rfl) rfl ?_
  refine mt_172_0 hJ hov1 hov2 (d := 79) (x1 := a2) K.1 (fun r6 hh7 K8 => ?_)
  have br6 := xc_rng r6
  have K9 := xk_tr K K8 rfl
  obtain ⟨u10, u11, bu10, bu11, A12⟩ := xq_0 K9.1
  have e13 : u4 = u11 := xk_eqi (q := 9) K8 rfl A5 A12 rfl rfl
  subst e13
  show xw J ov 100 195 (1216, [(4, .int x4), (3, .ref 167), (2, .ref 115), (1, .ref 0), (0, .ref 1000000)], [.int r6], hh7) _
  refine xi_pop (pc' := 1217) kc_195_1216 rfl rfl ?_
  refine xi_aload_n (pc' := 1218) (x := 115) kc_195_1217 rfl rfl ?_
  refine xi_aload_n (pc' := 1219) (x := 1000000) kc_195_1218 rfl rfl ?_
  refine xi_iload (pc' := 1221) (x := x4) kc_195_1219 rfl rfl ?_
  refine xi_iconst (pc' := 1222) (v := 1) kc_195_1221 rfl rfl ?_
  refine xi_iadd (pc' := 1223) (v := v1) kc_195_1222 rfl ev1 ?_
  refine xi_ialoadO (pc' := 1224) (v := a2) kc_195_1223 rfl (by decide) hov0 (xi_in (by omega) (by omega)) ea2 ?_
  obtain ⟨u14, u15, u16, u17, u18, u19, u20, u21, u22, u23, u24, u25, u26, bu14, bu15, bu16, bu17, bu18, bu19, bu20, bu21, bu22, bu23, bu24, bu25, bu26, A27⟩ := xq_115 K9.1
  refine xi_virtual (mj := 68) (as := [.int a2]) (st1 := []) (lv0 := [(0, .ref 115), (1, .int a2)]) kc_195_1224 rfl rfl rfl rfl rfl A27 (Nat.le_of_ble_eq_true rfl) (hJ _ _ _ _ (by decide)) (xm_le ml_68 rfl) rfl ?_
  refine mt_68_0 hJ hov1 hov2 (d := 97) (x1 := a2) K9.1 (fun r28 hh29 K30 => ?_)
  have br28 := xc_rng r28
  have K31 := xk_tr K9 K30 rfl
  obtain ⟨u32, u33, bu32, bu33, A34⟩ := xq_0 K31.1
  have e35 : u4 = u33 := xk_eqi (q := 9) K30 rfl A12 A34 rfl rfl
  subst e35
  obtain ⟨u36, u37, u38, u39, u40, u41, u42, u43, u44, u45, u46, u47, u48, bu36, bu37, bu38, bu39, bu40, bu41, bu42, bu43, bu44, bu45, bu46, bu47, bu48, A49⟩ := xq_115 K31.1
  have e50 : u15 = u37 := xk_eqi (q := 1) K30 rfl A27 A49 rfl rfl
  subst e50
  have e51 : u25 = u47 := xk_eqi (q := 56) K30 rfl A27 A49 rfl rfl
  subst e51
  show xw J ov 100 195 (1227, [(4, .int x4), (3, .ref 167), (2, .ref 115), (1, .ref 0), (0, .ref 1000000)], [.int r28], hh29) _
  refine xi_pop (pc' := 1228) kc_195_1227 rfl rfl ?_
  refine xi_goto (pc' := 1501) kc_195_1228 rfl ?_
  obtain ⟨v52, ev52⟩ : ∃ q : Int32, x4 + 6 = q := ⟨_, rfl⟩
  have zv52 : v52.toInt = (x4.toInt + 6) := by rw [← ev52]; exact (xz_add (X := x4.toInt) (Y := 6) rfl (by decide) (by omega) (by omega)).trans (by omega)
  refine xi_iinc (pc' := 1504) (x := x4) (v := v52) (lv' := [(4, .int v52), (3, .ref 167), (2, .ref 115), (1, .ref 0), (0, .ref 1000000)]) kc_195_1501 rfl rfl ev52 rfl (xm_lt ml_195 rfl) ?_
  refine xi_goto (pc' := 23) kc_195_1504 rfl ?_
  exact kk v52 hh29 (by omega) K31
set_option maxHeartbeats 8000000 in
theorem lc_28 {J : xe_J} {ov : List (List Int32)} (hJ : ∀ d mj as h, mj ≠ xe_loff → J d mj as h = none) (hov1 : ov[1]? = some [10, 0, 0, 0, 0, 0]) (hov2 : ov[2]? = some [99, 30, 50, 50, 1, 99999]) {xs : List Int32} (hov0 : ov[0]? = some xs) {Q : Option Value → xe_H → Prop} {h : xe_H} {x4 : Int32} (hi0 : 0 ≤ x4.toInt) (hi1 : x4.toInt + 6 ≤ xs.length) (hi2 : x4.toInt ≤ 3066) (T : xt h) (I : xI h) (kk : ∀ (i : Int32) (h' : xe_H), i.toInt = x4.toInt + 6 → xk [] h h' → xI h' → xw J ov 100 195 (23, [(4, .int i), (3, .ref 167), (2, .ref 115), (1, .ref 0), (0, .ref 1000000)], [], h') Q) : xw J ov 100 195 (1231, [(4, .int x4), (3, .ref 167), (2, .ref 115), (1, .ref 0), (0, .ref 1000000)], [], h) Q := by
  have K : xk [] h h := xk_re T
  obtain ⟨u1, u2, bu1, bu2, A3⟩ := xq_0 K.1
  obtain ⟨u4, u5, u6, u7, u8, u9, u10, u11, u12, u13, u14, u15, u16, bu4, bu5, bu6, bu7, bu8, bu9, bu10, bu11, bu12, bu13, bu14, bu15, bu16, A17⟩ := xq_115 K.1
  have ee0 : u2 = u5 := xl_eqf I.1 A3 A17 rfl rfl
  subst ee0
  obtain ⟨u18, u19, bu18, bu19, A20⟩ := xq_85 K.1
  have ee1 : u19 = u15 := xl_eqf I.2 A20 A17 rfl rfl
  subst ee1
  refine xi_aload_n (pc' := 1232) (x := 0) kc_195_1231 rfl rfl ?_
  refine xi_aload_n (pc' := 1233) (x := 1000000) kc_195_1232 rfl rfl ?_
  refine xi_iload (pc' := 1235) (x := x4) kc_195_1233 rfl rfl ?_
  refine xi_iconst (pc' := 1236) (v := 1) kc_195_1235 rfl rfl ?_
  obtain ⟨v21, ev21⟩ : ∃ q : Int32, x4 + 1 = q := ⟨_, rfl⟩
  have zv21 : v21.toInt = (x4.toInt + 1) := by rw [← ev21]; exact (xz_add (X := x4.toInt) (Y := 1) rfl (by decide) (by omega) (by omega)).trans (by omega)
  refine xi_iadd (pc' := 1237) (v := v21) kc_195_1236 rfl ev21 ?_
  obtain ⟨a22, ea22⟩ : ∃ q : Int32, xs.getD (Int32.toNatClampNeg v21) 0 = q := ⟨_, rfl⟩
  have ra22 := xc_rng a22
  refine xi_ialoadO (pc' := 1238) (v := a22) kc_195_1237 rfl (by decide) hov0 (xi_in (by omega) (by omega)) ea22 ?_
  refine xi_aload_n (pc' := 1239) (x := 1000000) kc_195_1238 rfl rfl ?_
  refine xi_iload (pc' := 1241) (x := x4) kc_195_1239 rfl rfl ?_
  refine xi_iconst (pc' := 1242) (v := 2) kc_195_1241 rfl rfl ?_
  obtain ⟨v23, ev23⟩ : ∃ q : Int32, x4 + 2 = q := ⟨_, rfl⟩
  have zv23 : v23.toInt = (x4.toInt + 2) := by rw [← ev23]; exact (xz_add (X := x4.toInt) (Y := 2) rfl (by decide) (by omega) (by omega)).trans (by omega)
  refine xi_iadd (pc' := 1243) (v := v23) kc_195_1242 rfl ev23 ?_
  obtain ⟨a24, ea24⟩ : ∃ q : Int32, xs.getD (Int32.toNatClampNeg v23) 0 = q := ⟨_, rfl⟩
  have ra24 := xc_rng a24
  refine xi_ialoadO (pc' := 1244) (v := a24) kc_195_1243 rfl (by decide) hov0 (xi_in (by omega) (by omega)) ea24 ?_
  refine xi_aload_n (pc' := 1245) (x := 1000000) kc_195_1244 rfl rfl ?_
  refine xi_iload (pc' := 1247) (x := x4) kc_195_1245 rfl rfl ?_
  refine xi_iconst (pc' := 1248) (v := 3) kc_195_1247 rfl rfl ?_
  obtain ⟨v25, ev25⟩ : ∃ q : Int32, x4 + 3 = q := ⟨_, rfl⟩
  have zv25 : v25.toInt = (x4.toInt + 3) := by rw [← ev25]; exact (xz_add (X := x4.toInt) (Y := 3) rfl (by decide) (by omega) (by omega)).trans (by omega)
  refine xi_iadd (pc' := 1249) (v := v25) kc_195_1248 rfl ev25 ?_
  obtain ⟨a26, ea26⟩ : ∃ q : Int32, xs.getD (Int32.toNatClampNeg v25) 0 = q := ⟨_, rfl⟩
  have ra26 := xc_rng a26
  refine xi_ialoadO (pc' := 1250) (v := a26) kc_195_1249 rfl (by decide) hov0 (xi_in (by omega) (by omega)) ea26 ?_
  refine xi_aload_n (pc' := 1251) (x := 1000000) kc_195_1250 rfl rfl ?_
  refine xi_iload (pc' := 1253) (x := x4) kc_195_1251 rfl rfl ?_
  refine xi_iconst (pc' := 1254) (v := 4) kc_195_1253 rfl rfl ?_
  obtain ⟨v27, ev27⟩ : ∃ q : Int32, x4 + 4 = q := ⟨_, rfl⟩
  have zv27 : v27.toInt = (x4.toInt + 4) := by rw [← ev27]; exact (xz_add (X := x4.toInt) (Y := 4) rfl (by decide) (by omega) (by omega)).trans (by omega)
  refine xi_iadd (pc' := 1255) (v := v27) kc_195_1254 rfl ev27 ?_
  obtain ⟨a28, ea28⟩ : ∃ q : Int32, xs.getD (Int32.toNatClampNeg v27) 0 = q := ⟨_, rfl⟩
  have ra28 := xc_rng a28
  refine xi_ialoadO (pc' := 1256) (v := a28) kc_195_1255 rfl (by decide) hov0 (xi_in (by omega) (by omega)) ea28 ?_
  refine xi_virtual (mj := 177) (as := [.int a22, .int a24, .int a26, .int a28]) (st1 := []) (lv0 := [(0, .ref 0), (1, .int a22), (2, .int a24), (3, .int a26), (4, .int a28)]) kc_195_1256 rfl rfl rfl rfl rfl A3 (Nat.le_of_ble_eq_true rfl) (hJ _ _ _ _ (by decide)) (xm_le ml_177 rfl) rfl ?_
  refine xi_iload_n (pc' := 1) (x := a24) kc_177_0 rfl rfl ?_
  refine xi_static (mj := 117) (as := [.int a24]) (st1 := []) (lv0 := [(0, .int a24)]) kc_177_1 rfl rfl (Nat.le_of_ble_eq_true rfl) rfl rfl (Nat.le_of_ble_eq_true rfl) (hJ _ _ _ _ (by decide)) (xm_le ml_117 rfl) rfl ?_
  refine xi_iload_n (pc' := 1) (x := a24) kc_117_0 rfl rfl ?_
  by_cases c29 : a24.toInt < 0
  · refine xi_ift (pc' := 13) kc_117_1 rfl (xc_lt_t (X := a24.toInt) (Y := 0) rfl (by decide) (by omega)) ?_
    refine xi_iconst (pc' := 14) (v := 0) kc_117_13 rfl rfl ?_
    refine xi_ireturn kc_117_14 mr_117 rfl ?_
    show xw J ov 99 177 (4, [(0, .ref 0), (1, .int a22), (2, .int a24), (3, .int a26), (4, .int a28)], [.int 0], h) _
    refine xi_ift (pc' := 16) kc_177_4 rfl rfl ?_
    refine xi_aload_n (pc' := 17) (x := 0) kc_177_16 rfl rfl ?_
    refine xi_bipush (pc' := 19) (v := (-2)) kc_177_17 rfl rfl ?_
    refine xi_virtual (mj := 90) (as := [.int (-2)]) (st1 := []) (lv0 := [(0, .ref 0), (1, .int (-2))]) kc_177_19 rfl rfl rfl rfl rfl A3 (Nat.le_of_ble_eq_true rfl) (hJ _ _ _ _ (by decide)) (xm_le ml_90 rfl) rfl ?_
    refine xi_iload_n (pc' := 1) (x := (-2)) kc_90_0 rfl rfl ?_
    refine xi_ineg (pc' := 2) (v := 2) kc_90_1 rfl rfl ?_
    refine xi_istore_n (pc' := 3) (lv' := [(2, .int 2), (0, .ref 0), (1, .int (-2))]) kc_90_2 rfl rfl (xm_lt ml_90 rfl) ?_
    refine xi_iload_n (pc' := 4) (x := 2) kc_90_3 rfl rfl ?_
    refine xi_iff (pc' := 7) kc_90_4 rfl rfl ?_
    refine xi_iload_n (pc' := 8) (x := 2) kc_90_7 rfl rfl ?_
    refine xi_aload_n (pc' := 9) (x := 0) kc_90_8 rfl rfl ?_
    refine xi_getfield (pc' := 12) (v := .ref 94) kc_90_9 rfl rfl rfl A3 rfl ?_
    obtain ⟨y30, A30, hy30, ry30⟩ := xk_arr K.1 xD_94
    refine xi_arraylength (pc' := 13) (n := 7) (v := 7) kc_90_12 rfl (xl_lenI (by decide) (by decide) A30 hy30) rfl ?_
    refine xi_cmf (pc' := 16) kc_90_13 rfl rfl ?_
    refine xi_aload_n (pc' := 17) (x := 0) kc_90_16 rfl rfl ?_
    refine xi_getfield (pc' := 20) (v := .ref 94) kc_90_17 rfl rfl rfl A3 rfl ?_
    refine xi_iload_n (pc' := 21) (x := 2) kc_90_20 rfl rfl ?_
    refine xi_dup2 (pc' := 22) kc_90_21 rfl ⟨rfl, rfl⟩ ?_
    obtain ⟨v31, ev31, bv31, dv31⟩ := xj_get hy30 ry30 (i := 2) (by decide) (by decide)
    refine xi_iaload (pc' := 23) (v := v31) kc_90_22 rfl A30 (by decide) rfl (xi_in (by decide) (by rw [hy30]; decide)) ev31 ?_
    refine xi_iconst (pc' := 24) (v := 1) kc_90_23 rfl rfl ?_
    obtain ⟨v32, ev32⟩ : ∃ q : Int32, (v31 : Int32) + 1 = q := ⟨_, rfl⟩
    have rv32 := xc_rng v32
    refine xi_iadd (pc' := 25) (v := v32) kc_90_24 rfl ev32 ?_
    obtain ⟨y33, s33, hy33, ry33⟩ := xj_set (v := v32) hy30 ry30 2 (by first | omega | decide) (by first | omega | decide)
    refine xi_iastore (pc' := 26) (x' := y33) kc_90_25 rfl A30 rfl (xi_in (by decide) (by rw [hy30]; decide)) s33 (fun hh33 eh33 => ?_)
    have K34 := xk_pa K (xk_wa rfl) xD_94 hy33 ry33 eh33
    refine xi_iload_n (pc' := 27) (x := (-2)) kc_90_26 rfl rfl ?_
    refine xi_ireturn kc_90_27 mr_90 rfl ?_
    show xw J ov 99 177 (22, [(0, .ref 0), (1, .int a22), (2, .int a24), (3, .int a26), (4, .int a28)], [.int (-2)], hh33) _
    refine xi_ireturn kc_177_22 mr_177 rfl ?_
    show xw J ov 100 195 (1259, [(4, .int x4), (3, .ref 167), (2, .ref 115), (1, .ref 0), (0, .ref 1000000)], [.int (-2)], hh33) _
    refine xi_aload_n (pc' := 1260) (x := 115) kc_195_1259 rfl rfl ?_
    refine xi_aload_n (pc' := 1261) (x := 1000000) kc_195_1260 rfl rfl ?_
    refine xi_iload (pc' := 1263) (x := x4) kc_195_1261 rfl rfl ?_
    refine xi_iconst (pc' := 1264) (v := 1) kc_195_1263 rfl rfl ?_
    refine xi_iadd (pc' := 1265) (v := v21) kc_195_1264 rfl ev21 ?_
    refine xi_ialoadO (pc' := 1266) (v := a22) kc_195_1265 rfl (by decide) hov0 (xi_in (by omega) (by omega)) ea22 ?_
    refine xi_aload_n (pc' := 1267) (x := 1000000) kc_195_1266 rfl rfl ?_
    refine xi_iload (pc' := 1269) (x := x4) kc_195_1267 rfl rfl ?_
    refine xi_iconst (pc' := 1270) (v := 2) kc_195_1269 rfl rfl ?_
    refine xi_iadd (pc' := 1271) (v := v23) kc_195_1270 rfl ev23 ?_
    refine xi_ialoadO (pc' := 1272) (v := a24) kc_195_1271 rfl (by decide) hov0 (xi_in (by omega) (by omega)) ea24 ?_
    refine xi_aload_n (pc' := 1273) (x := 1000000) kc_195_1272 rfl rfl ?_
    refine xi_iload (pc' := 1275) (x := x4) kc_195_1273 rfl rfl ?_
    refine xi_iconst (pc' := 1276) (v := 3) kc_195_1275 rfl rfl ?_
    refine xi_iadd (pc' := 1277) (v := v25) kc_195_1276 rfl ev25 ?_
    refine xi_ialoadO (pc' := 1278) (v := a26) kc_195_1277 rfl (by decide) hov0 (xi_in (by omega) (by omega)) ea26 ?_
    refine xi_aload_n (pc' := 1279) (x := 1000000) kc_195_1278 rfl rfl ?_
    refine xi_iload (pc' := 1281) (x := x4) kc_195_1279 rfl rfl ?_
    refine xi_iconst (pc' := 1282) (v := 4) kc_195_1281 rfl rfl ?_
    refine xi_iadd (pc' := 1283) (v := v27) kc_195_1282 rfl ev27 ?_
    refine xi_ialoadO (pc' := 1284) (v := a28) kc_195_1283 rfl (by decide) hov0 (xi_in (by omega) (by omega)) ea28 ?_
    have A35 := ((eh33.2.1 115 (by decide)).trans A17)
    refine xi_virtual (mj := 70) (as := [.int a22, .int a24, .int a26, .int a28]) (st1 := [.int (-2)]) (lv0 := [(0, .ref 115), (1, .int a22), (2, .int a24), (3, .int a26), (4, .int a28)]) kc_195_1284 rfl rfl rfl rfl rfl A35 (Nat.le_of_ble_eq_true rfl) (hJ _ _ _ _ (by decide)) (xm_le ml_70 rfl) rfl ?_
    refine xi_aload_n (pc' := 1) (x := 115) kc_70_0 rfl rfl ?_
    refine xi_iconst (pc' := 2) (v := 0) kc_70_1 rfl rfl ?_
    refine xi_putfield (pc' := 5) (fs' := [.int 0, .int u2, .ref 116, .ref 117, .ref 118, .ref 119, .ref 120, .ref 121, .ref 122, .ref 123, .ref 124, .ref 125, .ref 126, .ref 127, .ref 128, .ref 129, .int u6, .ref 130, .int u7, .ref 131, .ref 132, .ref 133, .ref 134, .int u8, .ref 135, .ref 136, .ref 137, .ref 138, .ref 139, .ref 140, .ref 141, .ref 142, .int u9, .int u10, .int u11, .ref 143, .ref 144, .ref 145, .ref 146, .ref 147, .ref 148, .int u12, .ref 149, .ref 150, .ref 151, .int u13, .ref 152, .ref 153, .ref 154, .ref 155, .ref 156, .ref 157, .ref 158, .ref 159, .int u14, .ref 160, .int u19, .ref 161, .ref 162, .ref 163, .ref 164, .int u16, .ref 165, .ref 166]) kc_70_2 rfl rfl rfl A35 rfl rfl rfl (Nat.le_of_ble_eq_true rfl) rfl (fun hh37 eh36 => ?_)
    have K38 := xk_pf (k := 0) (v := 0) K34 (xk_wf rfl) xD_115 A35 rfl (by first | omega | decide) (by first | omega | decide) eh36 rfl
    refine xi_iload_n (pc' := 6) (x := a24) kc_70_5 rfl rfl ?_
    refine xi_iconst (pc' := 7) (v := 0) kc_70_6 rfl rfl ?_
    refine xi_iconst (pc' := 8) (v := 3) kc_70_7 rfl rfl ?_
    refine xi_static (mj := 11) (as := [.int a24, .int 0, .int 3]) (st1 := []) (lv0 := [(0, .int a24), (1, .int 0), (2, .int 3)]) kc_70_8 rfl rfl (Nat.le_of_ble_eq_true rfl) rfl rfl (Nat.le_of_ble_eq_true rfl) (hJ _ _ _ _ (by decide)) (xm_le ml_11 rfl) rfl ?_
    refine xi_iload_n (pc' := 1) (x := a24) kc_11_0 rfl rfl ?_
    refine xi_iload_n (pc' := 2) (x := 0) kc_11_1 rfl rfl ?_
    refine xi_cmt (pc' := 14) kc_11_2 rfl (xc_lt_t (X := a24.toInt) (Y := 0) rfl (by decide) (by omega)) ?_
    refine xi_iconst (pc' := 15) (v := 0) kc_11_14 rfl rfl ?_
    refine xi_ireturn kc_11_15 mr_11 rfl ?_
    show xw J ov 99 70 (11, [(0, .ref 115), (1, .int a22), (2, .int a24), (3, .int a26), (4, .int a28)], [.int 0], hh37) _
    refine xi_ift (pc' := 23) kc_70_11 rfl rfl ?_
    refine xi_aload_n (pc' := 24) (x := 115) kc_70_23 rfl rfl ?_
    refine xi_bipush (pc' := 26) (v := (-2)) kc_70_24 rfl rfl ?_
    refine xi_virtual (mj := 12) (as := [.int (-2)]) (st1 := []) (lv0 := [(0, .ref 115), (1, .int (-2))]) kc_70_26 rfl rfl rfl rfl rfl eh36.1 (Nat.le_of_ble_eq_true rfl) (hJ _ _ _ _ (by decide)) (xm_le ml_12 rfl) rfl ?_
    refine xi_aload_n (pc' := 1) (x := 115) kc_12_0 rfl rfl ?_
    refine xi_getfield (pc' := 4) (v := .ref 140) kc_12_1 rfl rfl rfl eh36.1 rfl ?_
    refine xi_iload_n (pc' := 5) (x := (-2)) kc_12_4 rfl rfl ?_
    refine xi_ineg (pc' := 6) (v := 2) kc_12_5 rfl rfl ?_
    refine xi_dup2 (pc' := 7) kc_12_6 rfl ⟨rfl, rfl⟩ ?_
    obtain ⟨y39, A39, hy39, ry39⟩ := xk_arr K.1 xD_140
    obtain ⟨v40, ev40, bv40, dv40⟩ := xj_get hy39 ry39 (i := 2) (by decide) (by decide)
    have A41 := ((eh36.2.1 140 (by decide)).trans ((eh33.2.1 140 (by decide)).trans A39))
    refine xi_iaload (pc' := 8) (v := v40) kc_12_7 rfl A41 (by decide) rfl (xi_in (by decide) (by rw [hy39]; decide)) ev40 ?_
    refine xi_iconst (pc' := 9) (v := 1) kc_12_8 rfl rfl ?_
    obtain ⟨v42, ev42⟩ : ∃ q : Int32, (v40 : Int32) + 1 = q := ⟨_, rfl⟩
    have rv42 := xc_rng v42
    refine xi_iadd (pc' := 10) (v := v42) kc_12_9 rfl ev42 ?_
    obtain ⟨y43, s43, hy43, ry43⟩ := xj_set (v := v42) hy39 ry39 2 (by first | omega | decide) (by first | omega | decide)
    refine xi_iastore (pc' := 11) (x' := y43) kc_12_10 rfl A41 rfl (xi_in (by decide) (by rw [hy39]; decide)) s43 (fun hh43 eh43 => ?_)
    have K44 := xk_pa K38 (xk_wa rfl) xD_140 hy43 ry43 eh43
    refine xi_iload_n (pc' := 12) (x := (-2)) kc_12_11 rfl rfl ?_
    refine xi_ireturn kc_12_12 mr_12 rfl ?_
    show xw J ov 99 70 (29, [(0, .ref 115), (1, .int a22), (2, .int a24), (3, .int a26), (4, .int a28)], [.int (-2)], hh43) _
    refine xi_ireturn kc_70_29 mr_70 rfl ?_
    show xw J ov 100 195 (1287, [(4, .int x4), (3, .ref 167), (2, .ref 115), (1, .ref 0), (0, .ref 1000000)], [.int (-2), .int (-2)], hh43) _
    refine xi_cmt (pc' := 1501) kc_195_1287 rfl rfl ?_
    obtain ⟨v45, ev45⟩ : ∃ q : Int32, x4 + 6 = q := ⟨_, rfl⟩
    have zv45 : v45.toInt = (x4.toInt + 6) := by rw [← ev45]; exact (xz_add (X := x4.toInt) (Y := 6) rfl (by decide) (by omega) (by omega)).trans (by omega)
    refine xi_iinc (pc' := 1504) (x := x4) (v := v45) (lv' := [(4, .int v45), (3, .ref 167), (2, .ref 115), (1, .ref 0), (0, .ref 1000000)]) kc_195_1501 rfl rfl ev45 rfl (xm_lt ml_195 rfl) ?_
    refine xi_goto (pc' := 23) kc_195_1504 rfl ?_
    have A46 := ((eh43.2.1 0 (by decide)).trans ((eh36.2.1 0 (by decide)).trans ((eh33.2.1 0 (by decide)).trans A3)))
    have A47 := ((eh43.2.1 115 (by decide)).trans eh36.1)
    have A48 := ((eh43.2.1 85 (by decide)).trans ((eh36.2.1 85 (by decide)).trans ((eh33.2.1 85 (by decide)).trans A20)))
    exact kk v45 hh43 (by omega) K44 ⟨((xl_of A46 rfl).trans (xl_of A47 rfl).symm), ((xl_of A48 rfl).trans (xl_of A47 rfl).symm)⟩
  · refine xi_iff (pc' := 4) kc_117_1 rfl (xc_lt_f (X := a24.toInt) (Y := 0) rfl (by decide) (by omega)) ?_
    refine xi_iload_n (pc' := 5) (x := a24) kc_117_4 rfl rfl ?_
    refine xi_iconst (pc' := 6) (v := 4) kc_117_5 rfl rfl ?_
    by_cases c49 : 4 ≤ a24.toInt
    · refine xi_cmt (pc' := 13) kc_117_6 rfl (xc_ge_t (X := a24.toInt) (Y := 4) rfl (by decide) (by omega)) ?_
      refine xi_iconst (pc' := 14) (v := 0) kc_117_13 rfl rfl ?_
      refine xi_ireturn kc_117_14 mr_117 rfl ?_
      show xw J ov 99 177 (4, [(0, .ref 0), (1, .int a22), (2, .int a24), (3, .int a26), (4, .int a28)], [.int 0], h) _
      refine xi_ift (pc' := 16) kc_177_4 rfl rfl ?_
      refine xi_aload_n (pc' := 17) (x := 0) kc_177_16 rfl rfl ?_
      refine xi_bipush (pc' := 19) (v := (-2)) kc_177_17 rfl rfl ?_
      refine xi_virtual (mj := 90) (as := [.int (-2)]) (st1 := []) (lv0 := [(0, .ref 0), (1, .int (-2))]) kc_177_19 rfl rfl rfl rfl rfl A3 (Nat.le_of_ble_eq_true rfl) (hJ _ _ _ _ (by decide)) (xm_le ml_90 rfl) rfl ?_
      refine xi_iload_n (pc' := 1) (x := (-2)) kc_90_0 rfl rfl ?_
      refine xi_ineg (pc' := 2) (v := 2) kc_90_1 rfl rfl ?_
      refine xi_istore_n (pc' := 3) (lv' := [(2, .int 2), (0, .ref 0), (1, .int (-2))]) kc_90_2 rfl rfl (xm_lt ml_90 rfl) ?_
      refine xi_iload_n (pc' := 4) (x := 2) kc_90_3 rfl rfl ?_
      refine xi_iff (pc' := 7) kc_90_4 rfl rfl ?_
      refine xi_iload_n (pc' := 8) (x := 2) kc_90_7 rfl rfl ?_
      refine xi_aload_n (pc' := 9) (x := 0) kc_90_8 rfl rfl ?_
      refine xi_getfield (pc' := 12) (v := .ref 94) kc_90_9 rfl rfl rfl A3 rfl ?_
      obtain ⟨y50, A50, hy50, ry50⟩ := xk_arr K.1 xD_94
      refine xi_arraylength (pc' := 13) (n := 7) (v := 7) kc_90_12 rfl (xl_lenI (by decide) (by decide) A50 hy50) rfl ?_
      refine xi_cmf (pc' := 16) kc_90_13 rfl rfl ?_
      refine xi_aload_n (pc' := 17) (x := 0) kc_90_16 rfl rfl ?_
      refine xi_getfield (pc' := 20) (v := .ref 94) kc_90_17 rfl rfl rfl A3 rfl ?_
      refine xi_iload_n (pc' := 21) (x := 2) kc_90_20 rfl rfl ?_
      refine xi_dup2 (pc' := 22) kc_90_21 rfl ⟨rfl, rfl⟩ ?_
      obtain ⟨v51, ev51, bv51, dv51⟩ := xj_get hy50 ry50 (i := 2) (by decide) (by decide)
      refine xi_iaload (pc' := 23) (v := v51) kc_90_22 rfl A50 (by decide) rfl (xi_in (by decide) (by rw [hy50]; decide)) ev51 ?_
      refine xi_iconst (pc' := 24) (v := 1) kc_90_23 rfl rfl ?_
      obtain ⟨v52, ev52⟩ : ∃ q : Int32, (v51 : Int32) + 1 = q := ⟨_, rfl⟩
      have rv52 := xc_rng v52
      refine xi_iadd (pc' := 25) (v := v52) kc_90_24 rfl ev52 ?_
      obtain ⟨y53, s53, hy53, ry53⟩ := xj_set (v := v52) hy50 ry50 2 (by first | omega | decide) (by first | omega | decide)
      refine xi_iastore (pc' := 26) (x' := y53) kc_90_25 rfl A50 rfl (xi_in (by decide) (by rw [hy50]; decide)) s53 (fun hh53 eh53 => ?_)
      have K54 := xk_pa K (xk_wa rfl) xD_94 hy53 ry53 eh53
      refine xi_iload_n (pc' := 27) (x := (-2)) kc_90_26 rfl rfl ?_
      refine xi_ireturn kc_90_27 mr_90 rfl ?_
      show xw J ov 99 177 (22, [(0, .ref 0), (1, .int a22), (2, .int a24), (3, .int a26), (4, .int a28)], [.int (-2)], hh53) _
      refine xi_ireturn kc_177_22 mr_177 rfl ?_
      show xw J ov 100 195 (1259, [(4, .int x4), (3, .ref 167), (2, .ref 115), (1, .ref 0), (0, .ref 1000000)], [.int (-2)], hh53) _
      refine xi_aload_n (pc' := 1260) (x := 115) kc_195_1259 rfl rfl ?_
      refine xi_aload_n (pc' := 1261) (x := 1000000) kc_195_1260 rfl rfl ?_
      refine xi_iload (pc' := 1263) (x := x4) kc_195_1261 rfl rfl ?_
      refine xi_iconst (pc' := 1264) (v := 1) kc_195_1263 rfl rfl ?_
      refine xi_iadd (pc' := 1265) (v := v21) kc_195_1264 rfl ev21 ?_
      refine xi_ialoadO (pc' := 1266) (v := a22) kc_195_1265 rfl (by decide) hov0 (xi_in (by omega) (by omega)) ea22 ?_
      refine xi_aload_n (pc' := 1267) (x := 1000000) kc_195_1266 rfl rfl ?_
      refine xi_iload (pc' := 1269) (x := x4) kc_195_1267 rfl rfl ?_
      refine xi_iconst (pc' := 1270) (v := 2) kc_195_1269 rfl rfl ?_
      refine xi_iadd (pc' := 1271) (v := v23) kc_195_1270 rfl ev23 ?_
      refine xi_ialoadO (pc' := 1272) (v := a24) kc_195_1271 rfl (by decide) hov0 (xi_in (by omega) (by omega)) ea24 ?_
      refine xi_aload_n (pc' := 1273) (x := 1000000) kc_195_1272 rfl rfl ?_
      refine xi_iload (pc' := 1275) (x := x4) kc_195_1273 rfl rfl ?_
      refine xi_iconst (pc' := 1276) (v := 3) kc_195_1275 rfl rfl ?_
      refine xi_iadd (pc' := 1277) (v := v25) kc_195_1276 rfl ev25 ?_
      refine xi_ialoadO (pc' := 1278) (v := a26) kc_195_1277 rfl (by decide) hov0 (xi_in (by omega) (by omega)) ea26 ?_
      refine xi_aload_n (pc' := 1279) (x := 1000000) kc_195_1278 rfl rfl ?_
      refine xi_iload (pc' := 1281) (x := x4) kc_195_1279 rfl rfl ?_
      refine xi_iconst (pc' := 1282) (v := 4) kc_195_1281 rfl rfl ?_
      refine xi_iadd (pc' := 1283) (v := v27) kc_195_1282 rfl ev27 ?_
      refine xi_ialoadO (pc' := 1284) (v := a28) kc_195_1283 rfl (by decide) hov0 (xi_in (by omega) (by omega)) ea28 ?_
      have A55 := ((eh53.2.1 115 (by decide)).trans A17)
      refine xi_virtual (mj := 70) (as := [.int a22, .int a24, .int a26, .int a28]) (st1 := [.int (-2)]) (lv0 := [(0, .ref 115), (1, .int a22), (2, .int a24), (3, .int a26), (4, .int a28)]) kc_195_1284 rfl rfl rfl rfl rfl A55 (Nat.le_of_ble_eq_true rfl) (hJ _ _ _ _ (by decide)) (xm_le ml_70 rfl) rfl ?_
      refine xi_aload_n (pc' := 1) (x := 115) kc_70_0 rfl rfl ?_
      refine xi_iconst (pc' := 2) (v := 0) kc_70_1 rfl rfl ?_
      refine xi_putfield (pc' := 5) (fs' := [.int 0, .int u2, .ref 116, .ref 117, .ref 118, .ref 119, .ref 120, .ref 121, .ref 122, .ref 123, .ref 124, .ref 125, .ref 126, .ref 127, .ref 128, .ref 129, .int u6, .ref 130, .int u7, .ref 131, .ref 132, .ref 133, .ref 134, .int u8, .ref 135, .ref 136, .ref 137, .ref 138, .ref 139, .ref 140, .ref 141, .ref 142, .int u9, .int u10, .int u11, .ref 143, .ref 144, .ref 145, .ref 146, .ref 147, .ref 148, .int u12, .ref 149, .ref 150, .ref 151, .int u13, .ref 152, .ref 153, .ref 154, .ref 155, .ref 156, .ref 157, .ref 158, .ref 159, .int u14, .ref 160, .int u19, .ref 161, .ref 162, .ref 163, .ref 164, .int u16, .ref 165, .ref 166]) kc_70_2 rfl rfl rfl A55 rfl rfl rfl (Nat.le_of_ble_eq_true rfl) rfl (fun hh57 eh56 => ?_)
      have K58 := xk_pf (k := 0) (v := 0) K54 (xk_wf rfl) xD_115 A55 rfl (by first | omega | decide) (by first | omega | decide) eh56 rfl
      refine xi_iload_n (pc' := 6) (x := a24) kc_70_5 rfl rfl ?_
      refine xi_iconst (pc' := 7) (v := 0) kc_70_6 rfl rfl ?_
      refine xi_iconst (pc' := 8) (v := 3) kc_70_7 rfl rfl ?_
      refine xi_static (mj := 11) (as := [.int a24, .int 0, .int 3]) (st1 := []) (lv0 := [(0, .int a24), (1, .int 0), (2, .int 3)]) kc_70_8 rfl rfl (Nat.le_of_ble_eq_true rfl) rfl rfl (Nat.le_of_ble_eq_true rfl) (hJ _ _ _ _ (by decide)) (xm_le ml_11 rfl) rfl ?_
      refine xi_iload_n (pc' := 1) (x := a24) kc_11_0 rfl rfl ?_
      refine xi_iload_n (pc' := 2) (x := 0) kc_11_1 rfl rfl ?_
      refine xi_cmf (pc' := 5) kc_11_2 rfl (xc_lt_f (X := a24.toInt) (Y := 0) rfl (by decide) (by omega)) ?_
      refine xi_iload_n (pc' := 6) (x := a24) kc_11_5 rfl rfl ?_
      refine xi_iload_n (pc' := 7) (x := 3) kc_11_6 rfl rfl ?_
      refine xi_cmt (pc' := 14) kc_11_7 rfl (xc_gt_t (X := a24.toInt) (Y := 3) rfl (by decide) (by omega)) ?_
      refine xi_iconst (pc' := 15) (v := 0) kc_11_14 rfl rfl ?_
      refine xi_ireturn kc_11_15 mr_11 rfl ?_
      show xw J ov 99 70 (11, [(0, .ref 115), (1, .int a22), (2, .int a24), (3, .int a26), (4, .int a28)], [.int 0], hh57) _
      refine xi_ift (pc' := 23) kc_70_11 rfl rfl ?_
      refine xi_aload_n (pc' := 24) (x := 115) kc_70_23 rfl rfl ?_
      refine xi_bipush (pc' := 26) (v := (-2)) kc_70_24 rfl rfl ?_
      refine xi_virtual (mj := 12) (as := [.int (-2)]) (st1 := []) (lv0 := [(0, .ref 115), (1, .int (-2))]) kc_70_26 rfl rfl rfl rfl rfl eh56.1 (Nat.le_of_ble_eq_true rfl) (hJ _ _ _ _ (by decide)) (xm_le ml_12 rfl) rfl ?_
      refine xi_aload_n (pc' := 1) (x := 115) kc_12_0 rfl rfl ?_
      refine xi_getfield (pc' := 4) (v := .ref 140) kc_12_1 rfl rfl rfl eh56.1 rfl ?_
      refine xi_iload_n (pc' := 5) (x := (-2)) kc_12_4 rfl rfl ?_
      refine xi_ineg (pc' := 6) (v := 2) kc_12_5 rfl rfl ?_
      refine xi_dup2 (pc' := 7) kc_12_6 rfl ⟨rfl, rfl⟩ ?_
      obtain ⟨y59, A59, hy59, ry59⟩ := xk_arr K.1 xD_140
      obtain ⟨v60, ev60, bv60, dv60⟩ := xj_get hy59 ry59 (i := 2) (by decide) (by decide)
      have A61 := ((eh56.2.1 140 (by decide)).trans ((eh53.2.1 140 (by decide)).trans A59))
      refine xi_iaload (pc' := 8) (v := v60) kc_12_7 rfl A61 (by decide) rfl (xi_in (by decide) (by rw [hy59]; decide)) ev60 ?_
      refine xi_iconst (pc' := 9) (v := 1) kc_12_8 rfl rfl ?_
      obtain ⟨v62, ev62⟩ : ∃ q : Int32, (v60 : Int32) + 1 = q := ⟨_, rfl⟩
      have rv62 := xc_rng v62
      refine xi_iadd (pc' := 10) (v := v62) kc_12_9 rfl ev62 ?_
      obtain ⟨y63, s63, hy63, ry63⟩ := xj_set (v := v62) hy59 ry59 2 (by first | omega | decide) (by first | omega | decide)
      refine xi_iastore (pc' := 11) (x' := y63) kc_12_10 rfl A61 rfl (xi_in (by decide) (by rw [hy59]; decide)) s63 (fun hh63 eh63 => ?_)
      have K64 := xk_pa K58 (xk_wa rfl) xD_140 hy63 ry63 eh63
      refine xi_iload_n (pc' := 12) (x := (-2)) kc_12_11 rfl rfl ?_
      refine xi_ireturn kc_12_12 mr_12 rfl ?_
      show xw J ov 99 70 (29, [(0, .ref 115), (1, .int a22), (2, .int a24), (3, .int a26), (4, .int a28)], [.int (-2)], hh63) _
      refine xi_ireturn kc_70_29 mr_70 rfl ?_
      show xw J ov 100 195 (1287, [(4, .int x4), (3, .ref 167), (2, .ref 115), (1, .ref 0), (0, .ref 1000000)], [.int (-2), .int (-2)], hh63) _
      refine xi_cmt (pc' := 1501) kc_195_1287 rfl rfl ?_
      obtain ⟨v65, ev65⟩ : ∃ q : Int32, x4 + 6 = q := ⟨_, rfl⟩
      have zv65 : v65.toInt = (x4.toInt + 6) := by rw [← ev65]; exact (xz_add (X := x4.toInt) (Y := 6) rfl (by decide) (by omega) (by omega)).trans (by omega)
      refine xi_iinc (pc' := 1504) (x := x4) (v := v65) (lv' := [(4, .int v65), (3, .ref 167), (2, .ref 115), (1, .ref 0), (0, .ref 1000000)]) kc_195_1501 rfl rfl ev65 rfl (xm_lt ml_195 rfl) ?_
      refine xi_goto (pc' := 23) kc_195_1504 rfl ?_
      have A66 := ((eh63.2.1 0 (by decide)).trans ((eh56.2.1 0 (by decide)).trans ((eh53.2.1 0 (by decide)).trans A3)))
      have A67 := ((eh63.2.1 115 (by decide)).trans eh56.1)
      have A68 := ((eh63.2.1 85 (by decide)).trans ((eh56.2.1 85 (by decide)).trans ((eh53.2.1 85 (by decide)).trans A20)))
      exact kk v65 hh63 (by omega) K64 ⟨((xl_of A66 rfl).trans (xl_of A67 rfl).symm), ((xl_of A68 rfl).trans (xl_of A67 rfl).symm)⟩
    · refine xi_cmf (pc' := 9) kc_117_6 rfl (xc_ge_f (X := a24.toInt) (Y := 4) rfl (by decide) (by omega)) ?_
      refine xi_iconst (pc' := 10) (v := 1) kc_117_9 rfl rfl ?_
      refine xi_goto (pc' := 14) kc_117_10 rfl ?_
      refine xi_ireturn kc_117_14 mr_117 rfl ?_
      show xw J ov 99 177 (4, [(0, .ref 0), (1, .int a22), (2, .int a24), (3, .int a26), (4, .int a28)], [.int 1], h) _
      refine xi_iff (pc' := 7) kc_177_4 rfl rfl ?_
      refine xi_iload_n (pc' := 8) (x := a26) kc_177_7 rfl rfl ?_
      by_cases c69 : a26.toInt < 0
      · refine xi_ift (pc' := 16) kc_177_8 rfl (xc_lt_t (X := a26.toInt) (Y := 0) rfl (by decide) (by omega)) ?_
        refine xi_aload_n (pc' := 17) (x := 0) kc_177_16 rfl rfl ?_
        refine xi_bipush (pc' := 19) (v := (-2)) kc_177_17 rfl rfl ?_
        refine xi_virtual (mj := 90) (as := [.int (-2)]) (st1 := []) (lv0 := [(0, .ref 0), (1, .int (-2))]) kc_177_19 rfl rfl rfl rfl rfl A3 (Nat.le_of_ble_eq_true rfl) (hJ _ _ _ _ (by decide)) (xm_le ml_90 rfl) rfl ?_
        refine xi_iload_n (pc' := 1) (x := (-2)) kc_90_0 rfl rfl ?_
        refine xi_ineg (pc' := 2) (v := 2) kc_90_1 rfl rfl ?_
        refine xi_istore_n (pc' := 3) (lv' := [(2, .int 2), (0, .ref 0), (1, .int (-2))]) kc_90_2 rfl rfl (xm_lt ml_90 rfl) ?_
        refine xi_iload_n (pc' := 4) (x := 2) kc_90_3 rfl rfl ?_
        refine xi_iff (pc' := 7) kc_90_4 rfl rfl ?_
        refine xi_iload_n (pc' := 8) (x := 2) kc_90_7 rfl rfl ?_
        refine xi_aload_n (pc' := 9) (x := 0) kc_90_8 rfl rfl ?_
        refine xi_getfield (pc' := 12) (v := .ref 94) kc_90_9 rfl rfl rfl A3 rfl ?_
        obtain ⟨y70, A70, hy70, ry70⟩ := xk_arr K.1 xD_94
        refine xi_arraylength (pc' := 13) (n := 7) (v := 7) kc_90_12 rfl (xl_lenI (by decide) (by decide) A70 hy70) rfl ?_
        refine xi_cmf (pc' := 16) kc_90_13 rfl rfl ?_
        refine xi_aload_n (pc' := 17) (x := 0) kc_90_16 rfl rfl ?_
        refine xi_getfield (pc' := 20) (v := .ref 94) kc_90_17 rfl rfl rfl A3 rfl ?_
        refine xi_iload_n (pc' := 21) (x := 2) kc_90_20 rfl rfl ?_
        refine xi_dup2 (pc' := 22) kc_90_21 rfl ⟨rfl, rfl⟩ ?_
        obtain ⟨v71, ev71, bv71, dv71⟩ := xj_get hy70 ry70 (i := 2) (by decide) (by decide)
        refine xi_iaload (pc' := 23) (v := v71) kc_90_22 rfl A70 (by decide) rfl (xi_in (by decide) (by rw [hy70]; decide)) ev71 ?_
        refine xi_iconst (pc' := 24) (v := 1) kc_90_23 rfl rfl ?_
        obtain ⟨v72, ev72⟩ : ∃ q : Int32, (v71 : Int32) + 1 = q := ⟨_, rfl⟩
        have rv72 := xc_rng v72
        refine xi_iadd (pc' := 25) (v := v72) kc_90_24 rfl ev72 ?_
        obtain ⟨y73, s73, hy73, ry73⟩ := xj_set (v := v72) hy70 ry70 2 (by first | omega | decide) (by first | omega | decide)
        refine xi_iastore (pc' := 26) (x' := y73) kc_90_25 rfl A70 rfl (xi_in (by decide) (by rw [hy70]; decide)) s73 (fun hh73 eh73 => ?_)
        have K74 := xk_pa K (xk_wa rfl) xD_94 hy73 ry73 eh73
        refine xi_iload_n (pc' := 27) (x := (-2)) kc_90_26 rfl rfl ?_
        refine xi_ireturn kc_90_27 mr_90 rfl ?_
        show xw J ov 99 177 (22, [(0, .ref 0), (1, .int a22), (2, .int a24), (3, .int a26), (4, .int a28)], [.int (-2)], hh73) _
        refine xi_ireturn kc_177_22 mr_177 rfl ?_
        show xw J ov 100 195 (1259, [(4, .int x4), (3, .ref 167), (2, .ref 115), (1, .ref 0), (0, .ref 1000000)], [.int (-2)], hh73) _
        refine xi_aload_n (pc' := 1260) (x := 115) kc_195_1259 rfl rfl ?_
        refine xi_aload_n (pc' := 1261) (x := 1000000) kc_195_1260 rfl rfl ?_
        refine xi_iload (pc' := 1263) (x := x4) kc_195_1261 rfl rfl ?_
        refine xi_iconst (pc' := 1264) (v := 1) kc_195_1263 rfl rfl ?_
        refine xi_iadd (pc' := 1265) (v := v21) kc_195_1264 rfl ev21 ?_
        refine xi_ialoadO (pc' := 1266) (v := a22) kc_195_1265 rfl (by decide) hov0 (xi_in (by omega) (by omega)) ea22 ?_
        refine xi_aload_n (pc' := 1267) (x := 1000000) kc_195_1266 rfl rfl ?_
        refine xi_iload (pc' := 1269) (x := x4) kc_195_1267 rfl rfl ?_
        refine xi_iconst (pc' := 1270) (v := 2) kc_195_1269 rfl rfl ?_
        refine xi_iadd (pc' := 1271) (v := v23) kc_195_1270 rfl ev23 ?_
        refine xi_ialoadO (pc' := 1272) (v := a24) kc_195_1271 rfl (by decide) hov0 (xi_in (by omega) (by omega)) ea24 ?_
        refine xi_aload_n (pc' := 1273) (x := 1000000) kc_195_1272 rfl rfl ?_
        refine xi_iload (pc' := 1275) (x := x4) kc_195_1273 rfl rfl ?_
        refine xi_iconst (pc' := 1276) (v := 3) kc_195_1275 rfl rfl ?_
        refine xi_iadd (pc' := 1277) (v := v25) kc_195_1276 rfl ev25 ?_
        refine xi_ialoadO (pc' := 1278) (v := a26) kc_195_1277 rfl (by decide) hov0 (xi_in (by omega) (by omega)) ea26 ?_
        refine xi_aload_n (pc' := 1279) (x := 1000000) kc_195_1278 rfl rfl ?_
        refine xi_iload (pc' := 1281) (x := x4) kc_195_1279 rfl rfl ?_
        refine xi_iconst (pc' := 1282) (v := 4) kc_195_1281 rfl rfl ?_
        refine xi_iadd (pc' := 1283) (v := v27) kc_195_1282 rfl ev27 ?_
        refine xi_ialoadO (pc' := 1284) (v := a28) kc_195_1283 rfl (by decide) hov0 (xi_in (by omega) (by omega)) ea28 ?_
        have A75 := ((eh73.2.1 115 (by decide)).trans A17)
        refine xi_virtual (mj := 70) (as := [.int a22, .int a24, .int a26, .int a28]) (st1 := [.int (-2)]) (lv0 := [(0, .ref 115), (1, .int a22), (2, .int a24), (3, .int a26), (4, .int a28)]) kc_195_1284 rfl rfl rfl rfl rfl A75 (Nat.le_of_ble_eq_true rfl) (hJ _ _ _ _ (by decide)) (xm_le ml_70 rfl) rfl ?_
        refine xi_aload_n (pc' := 1) (x := 115) kc_70_0 rfl rfl ?_
        refine xi_iconst (pc' := 2) (v := 0) kc_70_1 rfl rfl ?_
        refine xi_putfield (pc' := 5) (fs' := [.int 0, .int u2, .ref 116, .ref 117, .ref 118, .ref 119, .ref 120, .ref 121, .ref 122, .ref 123, .ref 124, .ref 125, .ref 126, .ref 127, .ref 128, .ref 129, .int u6, .ref 130, .int u7, .ref 131, .ref 132, .ref 133, .ref 134, .int u8, .ref 135, .ref 136, .ref 137, .ref 138, .ref 139, .ref 140, .ref 141, .ref 142, .int u9, .int u10, .int u11, .ref 143, .ref 144, .ref 145, .ref 146, .ref 147, .ref 148, .int u12, .ref 149, .ref 150, .ref 151, .int u13, .ref 152, .ref 153, .ref 154, .ref 155, .ref 156, .ref 157, .ref 158, .ref 159, .int u14, .ref 160, .int u19, .ref 161, .ref 162, .ref 163, .ref 164, .int u16, .ref 165, .ref 166]) kc_70_2 rfl rfl rfl A75 rfl rfl rfl (Nat.le_of_ble_eq_true rfl) rfl (fun hh77 eh76 => ?_)
        have K78 := xk_pf (k := 0) (v := 0) K74 (xk_wf rfl) xD_115 A75 rfl (by first | omega | decide) (by first | omega | decide) eh76 rfl
        refine xi_iload_n (pc' := 6) (x := a24) kc_70_5 rfl rfl ?_
        refine xi_iconst (pc' := 7) (v := 0) kc_70_6 rfl rfl ?_
        refine xi_iconst (pc' := 8) (v := 3) kc_70_7 rfl rfl ?_
        refine xi_static (mj := 11) (as := [.int a24, .int 0, .int 3]) (st1 := []) (lv0 := [(0, .int a24), (1, .int 0), (2, .int 3)]) kc_70_8 rfl rfl (Nat.le_of_ble_eq_true rfl) rfl rfl (Nat.le_of_ble_eq_true rfl) (hJ _ _ _ _ (by decide)) (xm_le ml_11 rfl) rfl ?_
        refine xi_iload_n (pc' := 1) (x := a24) kc_11_0 rfl rfl ?_
        refine xi_iload_n (pc' := 2) (x := 0) kc_11_1 rfl rfl ?_
        refine xi_cmf (pc' := 5) kc_11_2 rfl (xc_lt_f (X := a24.toInt) (Y := 0) rfl (by decide) (by omega)) ?_
        refine xi_iload_n (pc' := 6) (x := a24) kc_11_5 rfl rfl ?_
        refine xi_iload_n (pc' := 7) (x := 3) kc_11_6 rfl rfl ?_
        refine xi_cmf (pc' := 10) kc_11_7 rfl (xc_gt_f (X := a24.toInt) (Y := 3) rfl (by decide) (by omega)) ?_
        refine xi_iconst (pc' := 11) (v := 1) kc_11_10 rfl rfl ?_
        refine xi_goto (pc' := 15) kc_11_11 rfl ?_
        refine xi_ireturn kc_11_15 mr_11 rfl ?_
        show xw J ov 99 70 (11, [(0, .ref 115), (1, .int a22), (2, .int a24), (3, .int a26), (4, .int a28)], [.int 1], hh77) _
        refine xi_iff (pc' := 14) kc_70_11 rfl rfl ?_
        refine xi_iload_n (pc' := 15) (x := a26) kc_70_14 rfl rfl ?_
        refine xi_iconst (pc' := 16) (v := 0) kc_70_15 rfl rfl ?_
        refine xi_iconst (pc' := 17) (v := 1) kc_70_16 rfl rfl ?_
        refine xi_static (mj := 11) (as := [.int a26, .int 0, .int 1]) (st1 := []) (lv0 := [(0, .int a26), (1, .int 0), (2, .int 1)]) kc_70_17 rfl rfl (Nat.le_of_ble_eq_true rfl) rfl rfl (Nat.le_of_ble_eq_true rfl) (hJ _ _ _ _ (by decide)) (xm_le ml_11 rfl) rfl ?_
        refine xi_iload_n (pc' := 1) (x := a26) kc_11_0 rfl rfl ?_
        refine xi_iload_n (pc' := 2) (x := 0) kc_11_1 rfl rfl ?_
        refine xi_cmt (pc' := 14) kc_11_2 rfl (xc_lt_t (X := a26.toInt) (Y := 0) rfl (by decide) (by omega)) ?_
        refine xi_iconst (pc' := 15) (v := 0) kc_11_14 rfl rfl ?_
        refine xi_ireturn kc_11_15 mr_11 rfl ?_
        show xw J ov 99 70 (20, [(0, .ref 115), (1, .int a22), (2, .int a24), (3, .int a26), (4, .int a28)], [.int 0], hh77) _
        refine xi_iff (pc' := 23) kc_70_20 rfl rfl ?_
        refine xi_aload_n (pc' := 24) (x := 115) kc_70_23 rfl rfl ?_
        refine xi_bipush (pc' := 26) (v := (-2)) kc_70_24 rfl rfl ?_
        refine xi_virtual (mj := 12) (as := [.int (-2)]) (st1 := []) (lv0 := [(0, .ref 115), (1, .int (-2))]) kc_70_26 rfl rfl rfl rfl rfl eh76.1 (Nat.le_of_ble_eq_true rfl) (hJ _ _ _ _ (by decide)) (xm_le ml_12 rfl) rfl ?_
        refine xi_aload_n (pc' := 1) (x := 115) kc_12_0 rfl rfl ?_
        refine xi_getfield (pc' := 4) (v := .ref 140) kc_12_1 rfl rfl rfl eh76.1 rfl ?_
        refine xi_iload_n (pc' := 5) (x := (-2)) kc_12_4 rfl rfl ?_
        refine xi_ineg (pc' := 6) (v := 2) kc_12_5 rfl rfl ?_
        refine xi_dup2 (pc' := 7) kc_12_6 rfl ⟨rfl, rfl⟩ ?_
        obtain ⟨y79, A79, hy79, ry79⟩ := xk_arr K.1 xD_140
        obtain ⟨v80, ev80, bv80, dv80⟩ := xj_get hy79 ry79 (i := 2) (by decide) (by decide)
        have A81 := ((eh76.2.1 140 (by decide)).trans ((eh73.2.1 140 (by decide)).trans A79))
        refine xi_iaload (pc' := 8) (v := v80) kc_12_7 rfl A81 (by decide) rfl (xi_in (by decide) (by rw [hy79]; decide)) ev80 ?_
        refine xi_iconst (pc' := 9) (v := 1) kc_12_8 rfl rfl ?_
        obtain ⟨v82, ev82⟩ : ∃ q : Int32, (v80 : Int32) + 1 = q := ⟨_, rfl⟩
        have rv82 := xc_rng v82
        refine xi_iadd (pc' := 10) (v := v82) kc_12_9 rfl ev82 ?_
        obtain ⟨y83, s83, hy83, ry83⟩ := xj_set (v := v82) hy79 ry79 2 (by first | omega | decide) (by first | omega | decide)
        refine xi_iastore (pc' := 11) (x' := y83) kc_12_10 rfl A81 rfl (xi_in (by decide) (by rw [hy79]; decide)) s83 (fun hh83 eh83 => ?_)
        have K84 := xk_pa K78 (xk_wa rfl) xD_140 hy83 ry83 eh83
        refine xi_iload_n (pc' := 12) (x := (-2)) kc_12_11 rfl rfl ?_
        refine xi_ireturn kc_12_12 mr_12 rfl ?_
        show xw J ov 99 70 (29, [(0, .ref 115), (1, .int a22), (2, .int a24), (3, .int a26), (4, .int a28)], [.int (-2)], hh83) _
        refine xi_ireturn kc_70_29 mr_70 rfl ?_
        show xw J ov 100 195 (1287, [(4, .int x4), (3, .ref 167), (2, .ref 115), (1, .ref 0), (0, .ref 1000000)], [.int (-2), .int (-2)], hh83) _
        refine xi_cmt (pc' := 1501) kc_195_1287 rfl rfl ?_
        obtain ⟨v85, ev85⟩ : ∃ q : Int32, x4 + 6 = q := ⟨_, rfl⟩
        have zv85 : v85.toInt = (x4.toInt + 6) := by rw [← ev85]; exact (xz_add (X := x4.toInt) (Y := 6) rfl (by decide) (by omega) (by omega)).trans (by omega)
        refine xi_iinc (pc' := 1504) (x := x4) (v := v85) (lv' := [(4, .int v85), (3, .ref 167), (2, .ref 115), (1, .ref 0), (0, .ref 1000000)]) kc_195_1501 rfl rfl ev85 rfl (xm_lt ml_195 rfl) ?_
        refine xi_goto (pc' := 23) kc_195_1504 rfl ?_
        have A86 := ((eh83.2.1 0 (by decide)).trans ((eh76.2.1 0 (by decide)).trans ((eh73.2.1 0 (by decide)).trans A3)))
        have A87 := ((eh83.2.1 115 (by decide)).trans eh76.1)
        have A88 := ((eh83.2.1 85 (by decide)).trans ((eh76.2.1 85 (by decide)).trans ((eh73.2.1 85 (by decide)).trans A20)))
        exact kk v85 hh83 (by omega) K84 ⟨((xl_of A86 rfl).trans (xl_of A87 rfl).symm), ((xl_of A88 rfl).trans (xl_of A87 rfl).symm)⟩
      · refine xi_iff (pc' := 11) kc_177_8 rfl (xc_lt_f (X := a26.toInt) (Y := 0) rfl (by decide) (by omega)) ?_
        refine xi_iload_n (pc' := 12) (x := a26) kc_177_11 rfl rfl ?_
        refine xi_iconst (pc' := 13) (v := 1) kc_177_12 rfl rfl ?_
        by_cases c89 : a26.toInt ≤ 1
        · refine xi_cmt (pc' := 23) kc_177_13 rfl (xc_le_t (X := a26.toInt) (Y := 1) rfl (by decide) (by omega)) ?_
          refine xi_iload_n (pc' := 24) (x := a22) kc_177_23 rfl rfl ?_
          refine xi_aload_n (pc' := 25) (x := 0) kc_177_24 rfl rfl ?_
          refine xi_getfield (pc' := 28) (v := .int u2) kc_177_25 rfl rfl rfl A3 rfl ?_
          refine xi_bipush (pc' := 30) (v := 24) kc_177_28 rfl rfl ?_
          obtain ⟨v90, ev90⟩ : ∃ q : Int32, u2 / 24 = q := ⟨_, rfl⟩
          have dv90 : v90.toInt = u2.toInt / 24 := by rw [← ev90]; exact xz_dive (X := u2.toInt) (Y := 24) rfl (by decide) (by omega) (by decide)
          have bv90 : 0 ≤ v90.toInt ∧ v90.toInt ≤ 25 := by omega
          refine xi_idiv (pc' := 31) (v := v90) kc_177_30 rfl ev90 (by decide) ?_
          by_cases c91 : a22.toInt < v90.toInt
          · refine xi_cmt (pc' := 39) kc_177_31 rfl (xc_lt_t (X := a22.toInt) (Y := v90.toInt) rfl rfl (by omega)) ?_
            refine xi_aload_n (pc' := 40) (x := 0) kc_177_39 rfl rfl ?_
            refine xi_bipush (pc' := 42) (v := (-4)) kc_177_40 rfl rfl ?_
            refine xi_virtual (mj := 90) (as := [.int (-4)]) (st1 := []) (lv0 := [(0, .ref 0), (1, .int (-4))]) kc_177_42 rfl rfl rfl rfl rfl A3 (Nat.le_of_ble_eq_true rfl) (hJ _ _ _ _ (by decide)) (xm_le ml_90 rfl) rfl ?_
            refine xi_iload_n (pc' := 1) (x := (-4)) kc_90_0 rfl rfl ?_
            refine xi_ineg (pc' := 2) (v := 4) kc_90_1 rfl rfl ?_
            refine xi_istore_n (pc' := 3) (lv' := [(2, .int 4), (0, .ref 0), (1, .int (-4))]) kc_90_2 rfl rfl (xm_lt ml_90 rfl) ?_
            refine xi_iload_n (pc' := 4) (x := 4) kc_90_3 rfl rfl ?_
            refine xi_iff (pc' := 7) kc_90_4 rfl rfl ?_
            refine xi_iload_n (pc' := 8) (x := 4) kc_90_7 rfl rfl ?_
            refine xi_aload_n (pc' := 9) (x := 0) kc_90_8 rfl rfl ?_
            refine xi_getfield (pc' := 12) (v := .ref 94) kc_90_9 rfl rfl rfl A3 rfl ?_
            obtain ⟨y92, A92, hy92, ry92⟩ := xk_arr K.1 xD_94
            refine xi_arraylength (pc' := 13) (n := 7) (v := 7) kc_90_12 rfl (xl_lenI (by decide) (by decide) A92 hy92) rfl ?_
            refine xi_cmf (pc' := 16) kc_90_13 rfl rfl ?_
            refine xi_aload_n (pc' := 17) (x := 0) kc_90_16 rfl rfl ?_
            refine xi_getfield (pc' := 20) (v := .ref 94) kc_90_17 rfl rfl rfl A3 rfl ?_
            refine xi_iload_n (pc' := 21) (x := 4) kc_90_20 rfl rfl ?_
            refine xi_dup2 (pc' := 22) kc_90_21 rfl ⟨rfl, rfl⟩ ?_
            obtain ⟨v93, ev93, bv93, dv93⟩ := xj_get hy92 ry92 (i := 4) (by decide) (by decide)
            refine xi_iaload (pc' := 23) (v := v93) kc_90_22 rfl A92 (by decide) rfl (xi_in (by decide) (by rw [hy92]; decide)) ev93 ?_
            refine xi_iconst (pc' := 24) (v := 1) kc_90_23 rfl rfl ?_
            obtain ⟨v94, ev94⟩ : ∃ q : Int32, (v93 : Int32) + 1 = q := ⟨_, rfl⟩
            have rv94 := xc_rng v94
            refine xi_iadd (pc' := 25) (v := v94) kc_90_24 rfl ev94 ?_
            obtain ⟨y95, s95, hy95, ry95⟩ := xj_set (v := v94) hy92 ry92 4 (by first | omega | decide) (by first | omega | decide)
            refine xi_iastore (pc' := 26) (x' := y95) kc_90_25 rfl A92 rfl (xi_in (by decide) (by rw [hy92]; decide)) s95 (fun hh95 eh95 => ?_)
            have K96 := xk_pa K (xk_wa rfl) xD_94 hy95 ry95 eh95
            refine xi_iload_n (pc' := 27) (x := (-4)) kc_90_26 rfl rfl ?_
            refine xi_ireturn kc_90_27 mr_90 rfl ?_
            show xw J ov 99 177 (45, [(0, .ref 0), (1, .int a22), (2, .int a24), (3, .int a26), (4, .int a28)], [.int (-4)], hh95) _
            refine xi_ireturn kc_177_45 mr_177 rfl ?_
            show xw J ov 100 195 (1259, [(4, .int x4), (3, .ref 167), (2, .ref 115), (1, .ref 0), (0, .ref 1000000)], [.int (-4)], hh95) _
            refine xi_aload_n (pc' := 1260) (x := 115) kc_195_1259 rfl rfl ?_
            refine xi_aload_n (pc' := 1261) (x := 1000000) kc_195_1260 rfl rfl ?_
            refine xi_iload (pc' := 1263) (x := x4) kc_195_1261 rfl rfl ?_
            refine xi_iconst (pc' := 1264) (v := 1) kc_195_1263 rfl rfl ?_
            refine xi_iadd (pc' := 1265) (v := v21) kc_195_1264 rfl ev21 ?_
            refine xi_ialoadO (pc' := 1266) (v := a22) kc_195_1265 rfl (by decide) hov0 (xi_in (by omega) (by omega)) ea22 ?_
            refine xi_aload_n (pc' := 1267) (x := 1000000) kc_195_1266 rfl rfl ?_
            refine xi_iload (pc' := 1269) (x := x4) kc_195_1267 rfl rfl ?_
            refine xi_iconst (pc' := 1270) (v := 2) kc_195_1269 rfl rfl ?_
            refine xi_iadd (pc' := 1271) (v := v23) kc_195_1270 rfl ev23 ?_
            refine xi_ialoadO (pc' := 1272) (v := a24) kc_195_1271 rfl (by decide) hov0 (xi_in (by omega) (by omega)) ea24 ?_
            refine xi_aload_n (pc' := 1273) (x := 1000000) kc_195_1272 rfl rfl ?_
            refine xi_iload (pc' := 1275) (x := x4) kc_195_1273 rfl rfl ?_
            refine xi_iconst (pc' := 1276) (v := 3) kc_195_1275 rfl rfl ?_
            refine xi_iadd (pc' := 1277) (v := v25) kc_195_1276 rfl ev25 ?_
            refine xi_ialoadO (pc' := 1278) (v := a26) kc_195_1277 rfl (by decide) hov0 (xi_in (by omega) (by omega)) ea26 ?_
            refine xi_aload_n (pc' := 1279) (x := 1000000) kc_195_1278 rfl rfl ?_
            refine xi_iload (pc' := 1281) (x := x4) kc_195_1279 rfl rfl ?_
            refine xi_iconst (pc' := 1282) (v := 4) kc_195_1281 rfl rfl ?_
            refine xi_iadd (pc' := 1283) (v := v27) kc_195_1282 rfl ev27 ?_
            refine xi_ialoadO (pc' := 1284) (v := a28) kc_195_1283 rfl (by decide) hov0 (xi_in (by omega) (by omega)) ea28 ?_
            have A97 := ((eh95.2.1 115 (by decide)).trans A17)
            refine xi_virtual (mj := 70) (as := [.int a22, .int a24, .int a26, .int a28]) (st1 := [.int (-4)]) (lv0 := [(0, .ref 115), (1, .int a22), (2, .int a24), (3, .int a26), (4, .int a28)]) kc_195_1284 rfl rfl rfl rfl rfl A97 (Nat.le_of_ble_eq_true rfl) (hJ _ _ _ _ (by decide)) (xm_le ml_70 rfl) rfl ?_
            refine xi_aload_n (pc' := 1) (x := 115) kc_70_0 rfl rfl ?_
            refine xi_iconst (pc' := 2) (v := 0) kc_70_1 rfl rfl ?_
            refine xi_putfield (pc' := 5) (fs' := [.int 0, .int u2, .ref 116, .ref 117, .ref 118, .ref 119, .ref 120, .ref 121, .ref 122, .ref 123, .ref 124, .ref 125, .ref 126, .ref 127, .ref 128, .ref 129, .int u6, .ref 130, .int u7, .ref 131, .ref 132, .ref 133, .ref 134, .int u8, .ref 135, .ref 136, .ref 137, .ref 138, .ref 139, .ref 140, .ref 141, .ref 142, .int u9, .int u10, .int u11, .ref 143, .ref 144, .ref 145, .ref 146, .ref 147, .ref 148, .int u12, .ref 149, .ref 150, .ref 151, .int u13, .ref 152, .ref 153, .ref 154, .ref 155, .ref 156, .ref 157, .ref 158, .ref 159, .int u14, .ref 160, .int u19, .ref 161, .ref 162, .ref 163, .ref 164, .int u16, .ref 165, .ref 166]) kc_70_2 rfl rfl rfl A97 rfl rfl rfl (Nat.le_of_ble_eq_true rfl) rfl (fun hh99 eh98 => ?_)
            have K100 := xk_pf (k := 0) (v := 0) K96 (xk_wf rfl) xD_115 A97 rfl (by first | omega | decide) (by first | omega | decide) eh98 rfl
            refine xi_iload_n (pc' := 6) (x := a24) kc_70_5 rfl rfl ?_
            refine xi_iconst (pc' := 7) (v := 0) kc_70_6 rfl rfl ?_
            refine xi_iconst (pc' := 8) (v := 3) kc_70_7 rfl rfl ?_
            refine xi_static (mj := 11) (as := [.int a24, .int 0, .int 3]) (st1 := []) (lv0 := [(0, .int a24), (1, .int 0), (2, .int 3)]) kc_70_8 rfl rfl (Nat.le_of_ble_eq_true rfl) rfl rfl (Nat.le_of_ble_eq_true rfl) (hJ _ _ _ _ (by decide)) (xm_le ml_11 rfl) rfl ?_
            refine xi_iload_n (pc' := 1) (x := a24) kc_11_0 rfl rfl ?_
            refine xi_iload_n (pc' := 2) (x := 0) kc_11_1 rfl rfl ?_
            refine xi_cmf (pc' := 5) kc_11_2 rfl (xc_lt_f (X := a24.toInt) (Y := 0) rfl (by decide) (by omega)) ?_
            refine xi_iload_n (pc' := 6) (x := a24) kc_11_5 rfl rfl ?_
            refine xi_iload_n (pc' := 7) (x := 3) kc_11_6 rfl rfl ?_
            refine xi_cmf (pc' := 10) kc_11_7 rfl (xc_gt_f (X := a24.toInt) (Y := 3) rfl (by decide) (by omega)) ?_
            refine xi_iconst (pc' := 11) (v := 1) kc_11_10 rfl rfl ?_
            refine xi_goto (pc' := 15) kc_11_11 rfl ?_
            refine xi_ireturn kc_11_15 mr_11 rfl ?_
            show xw J ov 99 70 (11, [(0, .ref 115), (1, .int a22), (2, .int a24), (3, .int a26), (4, .int a28)], [.int 1], hh99) _
            refine xi_iff (pc' := 14) kc_70_11 rfl rfl ?_
            refine xi_iload_n (pc' := 15) (x := a26) kc_70_14 rfl rfl ?_
            refine xi_iconst (pc' := 16) (v := 0) kc_70_15 rfl rfl ?_
            refine xi_iconst (pc' := 17) (v := 1) kc_70_16 rfl rfl ?_
            refine xi_static (mj := 11) (as := [.int a26, .int 0, .int 1]) (st1 := []) (lv0 := [(0, .int a26), (1, .int 0), (2, .int 1)]) kc_70_17 rfl rfl (Nat.le_of_ble_eq_true rfl) rfl rfl (Nat.le_of_ble_eq_true rfl) (hJ _ _ _ _ (by decide)) (xm_le ml_11 rfl) rfl ?_
            refine xi_iload_n (pc' := 1) (x := a26) kc_11_0 rfl rfl ?_
            refine xi_iload_n (pc' := 2) (x := 0) kc_11_1 rfl rfl ?_
            refine xi_cmf (pc' := 5) kc_11_2 rfl (xc_lt_f (X := a26.toInt) (Y := 0) rfl (by decide) (by omega)) ?_
            refine xi_iload_n (pc' := 6) (x := a26) kc_11_5 rfl rfl ?_
            refine xi_iload_n (pc' := 7) (x := 1) kc_11_6 rfl rfl ?_
            refine xi_cmf (pc' := 10) kc_11_7 rfl (xc_gt_f (X := a26.toInt) (Y := 1) rfl (by decide) (by omega)) ?_
            refine xi_iconst (pc' := 11) (v := 1) kc_11_10 rfl rfl ?_
            refine xi_goto (pc' := 15) kc_11_11 rfl ?_
            refine xi_ireturn kc_11_15 mr_11 rfl ?_
            show xw J ov 99 70 (20, [(0, .ref 115), (1, .int a22), (2, .int a24), (3, .int a26), (4, .int a28)], [.int 1], hh99) _
            refine xi_ift (pc' := 30) kc_70_20 rfl rfl ?_
            refine xi_iload_n (pc' := 31) (x := a22) kc_70_30 rfl rfl ?_
            refine xi_aload_n (pc' := 32) (x := 115) kc_70_31 rfl rfl ?_
            refine xi_getfield (pc' := 35) (v := .int u2) kc_70_32 rfl rfl rfl eh98.1 rfl ?_
            refine xi_bipush (pc' := 37) (v := 24) kc_70_35 rfl rfl ?_
            refine xi_idiv (pc' := 38) (v := v90) kc_70_37 rfl ev90 (by decide) ?_
            refine xi_cmt (pc' := 46) kc_70_38 rfl (xc_lt_t (X := a22.toInt) (Y := v90.toInt) rfl rfl (by omega)) ?_
            refine xi_aload_n (pc' := 47) (x := 115) kc_70_46 rfl rfl ?_
            refine xi_bipush (pc' := 49) (v := (-4)) kc_70_47 rfl rfl ?_
            refine xi_virtual (mj := 12) (as := [.int (-4)]) (st1 := []) (lv0 := [(0, .ref 115), (1, .int (-4))]) kc_70_49 rfl rfl rfl rfl rfl eh98.1 (Nat.le_of_ble_eq_true rfl) (hJ _ _ _ _ (by decide)) (xm_le ml_12 rfl) rfl ?_
            refine xi_aload_n (pc' := 1) (x := 115) kc_12_0 rfl rfl ?_
            refine xi_getfield (pc' := 4) (v := .ref 140) kc_12_1 rfl rfl rfl eh98.1 rfl ?_
            refine xi_iload_n (pc' := 5) (x := (-4)) kc_12_4 rfl rfl ?_
            refine xi_ineg (pc' := 6) (v := 4) kc_12_5 rfl rfl ?_
            refine xi_dup2 (pc' := 7) kc_12_6 rfl ⟨rfl, rfl⟩ ?_
            obtain ⟨y101, A101, hy101, ry101⟩ := xk_arr K.1 xD_140
            obtain ⟨v102, ev102, bv102, dv102⟩ := xj_get hy101 ry101 (i := 4) (by decide) (by decide)
            have A103 := ((eh98.2.1 140 (by decide)).trans ((eh95.2.1 140 (by decide)).trans A101))
            refine xi_iaload (pc' := 8) (v := v102) kc_12_7 rfl A103 (by decide) rfl (xi_in (by decide) (by rw [hy101]; decide)) ev102 ?_
            refine xi_iconst (pc' := 9) (v := 1) kc_12_8 rfl rfl ?_
            obtain ⟨v104, ev104⟩ : ∃ q : Int32, (v102 : Int32) + 1 = q := ⟨_, rfl⟩
            have rv104 := xc_rng v104
            refine xi_iadd (pc' := 10) (v := v104) kc_12_9 rfl ev104 ?_
            obtain ⟨y105, s105, hy105, ry105⟩ := xj_set (v := v104) hy101 ry101 4 (by first | omega | decide) (by first | omega | decide)
            refine xi_iastore (pc' := 11) (x' := y105) kc_12_10 rfl A103 rfl (xi_in (by decide) (by rw [hy101]; decide)) s105 (fun hh105 eh105 => ?_)
            have K106 := xk_pa K100 (xk_wa rfl) xD_140 hy105 ry105 eh105
            refine xi_iload_n (pc' := 12) (x := (-4)) kc_12_11 rfl rfl ?_
            refine xi_ireturn kc_12_12 mr_12 rfl ?_
            show xw J ov 99 70 (52, [(0, .ref 115), (1, .int a22), (2, .int a24), (3, .int a26), (4, .int a28)], [.int (-4)], hh105) _
            refine xi_ireturn kc_70_52 mr_70 rfl ?_
            show xw J ov 100 195 (1287, [(4, .int x4), (3, .ref 167), (2, .ref 115), (1, .ref 0), (0, .ref 1000000)], [.int (-4), .int (-4)], hh105) _
            refine xi_cmt (pc' := 1501) kc_195_1287 rfl rfl ?_
            obtain ⟨v107, ev107⟩ : ∃ q : Int32, x4 + 6 = q := ⟨_, rfl⟩
            have zv107 : v107.toInt = (x4.toInt + 6) := by rw [← ev107]; exact (xz_add (X := x4.toInt) (Y := 6) rfl (by decide) (by omega) (by omega)).trans (by omega)
            refine xi_iinc (pc' := 1504) (x := x4) (v := v107) (lv' := [(4, .int v107), (3, .ref 167), (2, .ref 115), (1, .ref 0), (0, .ref 1000000)]) kc_195_1501 rfl rfl ev107 rfl (xm_lt ml_195 rfl) ?_
            refine xi_goto (pc' := 23) kc_195_1504 rfl ?_
            have A108 := ((eh105.2.1 0 (by decide)).trans ((eh98.2.1 0 (by decide)).trans ((eh95.2.1 0 (by decide)).trans A3)))
            have A109 := ((eh105.2.1 115 (by decide)).trans eh98.1)
            have A110 := ((eh105.2.1 85 (by decide)).trans ((eh98.2.1 85 (by decide)).trans ((eh95.2.1 85 (by decide)).trans A20)))
            exact kk v107 hh105 (by omega) K106 ⟨((xl_of A108 rfl).trans (xl_of A109 rfl).symm), ((xl_of A110 rfl).trans (xl_of A109 rfl).symm)⟩
          · refine xi_cmf (pc' := 34) kc_177_31 rfl (xc_lt_f (X := a22.toInt) (Y := v90.toInt) rfl rfl (by omega)) ?_
            refine xi_iload (pc' := 36) (x := a28) kc_177_34 rfl rfl ?_
            by_cases c111 : 0 ≤ a28.toInt
            · refine xi_ift (pc' := 46) kc_177_36 rfl (xc_ge_t (X := a28.toInt) (Y := 0) rfl (by decide) (by omega)) ?_
              refine xi_iload_n (pc' := 47) (x := a22) kc_177_46 rfl rfl ?_
              refine xi_bipush (pc' := 49) (v := 25) kc_177_47 rfl rfl ?_
              by_cases c112 : 25 < a22.toInt
              · refine xi_cmt (pc' := 71) kc_177_49 rfl (xc_gt_t (X := a22.toInt) (Y := 25) rfl (by decide) (by omega)) ?_
                refine xi_aload_n (pc' := 72) (x := 0) kc_177_71 rfl rfl ?_
                refine xi_bipush (pc' := 74) (v := (-6)) kc_177_72 rfl rfl ?_
                refine xi_virtual (mj := 90) (as := [.int (-6)]) (st1 := []) (lv0 := [(0, .ref 0), (1, .int (-6))]) kc_177_74 rfl rfl rfl rfl rfl A3 (Nat.le_of_ble_eq_true rfl) (hJ _ _ _ _ (by decide)) (xm_le ml_90 rfl) rfl ?_
                refine xi_iload_n (pc' := 1) (x := (-6)) kc_90_0 rfl rfl ?_
                refine xi_ineg (pc' := 2) (v := 6) kc_90_1 rfl rfl ?_
                refine xi_istore_n (pc' := 3) (lv' := [(2, .int 6), (0, .ref 0), (1, .int (-6))]) kc_90_2 rfl rfl (xm_lt ml_90 rfl) ?_
                refine xi_iload_n (pc' := 4) (x := 6) kc_90_3 rfl rfl ?_
                refine xi_iff (pc' := 7) kc_90_4 rfl rfl ?_
                refine xi_iload_n (pc' := 8) (x := 6) kc_90_7 rfl rfl ?_
                refine xi_aload_n (pc' := 9) (x := 0) kc_90_8 rfl rfl ?_
                refine xi_getfield (pc' := 12) (v := .ref 94) kc_90_9 rfl rfl rfl A3 rfl ?_
                obtain ⟨y113, A113, hy113, ry113⟩ := xk_arr K.1 xD_94
                refine xi_arraylength (pc' := 13) (n := 7) (v := 7) kc_90_12 rfl (xl_lenI (by decide) (by decide) A113 hy113) rfl ?_
                refine xi_cmf (pc' := 16) kc_90_13 rfl rfl ?_
                refine xi_aload_n (pc' := 17) (x := 0) kc_90_16 rfl rfl ?_
                refine xi_getfield (pc' := 20) (v := .ref 94) kc_90_17 rfl rfl rfl A3 rfl ?_
                refine xi_iload_n (pc' := 21) (x := 6) kc_90_20 rfl rfl ?_
                refine xi_dup2 (pc' := 22) kc_90_21 rfl ⟨rfl, rfl⟩ ?_
                obtain ⟨v114, ev114, bv114, dv114⟩ := xj_get hy113 ry113 (i := 6) (by decide) (by decide)
                refine xi_iaload (pc' := 23) (v := v114) kc_90_22 rfl A113 (by decide) rfl (xi_in (by decide) (by rw [hy113]; decide)) ev114 ?_
                refine xi_iconst (pc' := 24) (v := 1) kc_90_23 rfl rfl ?_
                obtain ⟨v115, ev115⟩ : ∃ q : Int32, (v114 : Int32) + 1 = q := ⟨_, rfl⟩
                have rv115 := xc_rng v115
                refine xi_iadd (pc' := 25) (v := v115) kc_90_24 rfl ev115 ?_
                obtain ⟨y116, s116, hy116, ry116⟩ := xj_set (v := v115) hy113 ry113 6 (by first | omega | decide) (by first | omega | decide)
                refine xi_iastore (pc' := 26) (x' := y116) kc_90_25 rfl A113 rfl (xi_in (by decide) (by rw [hy113]; decide)) s116 (fun hh116 eh116 => ?_)
                have K117 := xk_pa K (xk_wa rfl) xD_94 hy116 ry116 eh116
                refine xi_iload_n (pc' := 27) (x := (-6)) kc_90_26 rfl rfl ?_
                refine xi_ireturn kc_90_27 mr_90 rfl ?_
                show xw J ov 99 177 (77, [(0, .ref 0), (1, .int a22), (2, .int a24), (3, .int a26), (4, .int a28)], [.int (-6)], hh116) _
                refine xi_ireturn kc_177_77 mr_177 rfl ?_
                show xw J ov 100 195 (1259, [(4, .int x4), (3, .ref 167), (2, .ref 115), (1, .ref 0), (0, .ref 1000000)], [.int (-6)], hh116) _
                refine xi_aload_n (pc' := 1260) (x := 115) kc_195_1259 rfl rfl ?_
                refine xi_aload_n (pc' := 1261) (x := 1000000) kc_195_1260 rfl rfl ?_
                refine xi_iload (pc' := 1263) (x := x4) kc_195_1261 rfl rfl ?_
                refine xi_iconst (pc' := 1264) (v := 1) kc_195_1263 rfl rfl ?_
                refine xi_iadd (pc' := 1265) (v := v21) kc_195_1264 rfl ev21 ?_
                refine xi_ialoadO (pc' := 1266) (v := a22) kc_195_1265 rfl (by decide) hov0 (xi_in (by omega) (by omega)) ea22 ?_
                refine xi_aload_n (pc' := 1267) (x := 1000000) kc_195_1266 rfl rfl ?_
                refine xi_iload (pc' := 1269) (x := x4) kc_195_1267 rfl rfl ?_
                refine xi_iconst (pc' := 1270) (v := 2) kc_195_1269 rfl rfl ?_
                refine xi_iadd (pc' := 1271) (v := v23) kc_195_1270 rfl ev23 ?_
                refine xi_ialoadO (pc' := 1272) (v := a24) kc_195_1271 rfl (by decide) hov0 (xi_in (by omega) (by omega)) ea24 ?_
                refine xi_aload_n (pc' := 1273) (x := 1000000) kc_195_1272 rfl rfl ?_
                refine xi_iload (pc' := 1275) (x := x4) kc_195_1273 rfl rfl ?_
                refine xi_iconst (pc' := 1276) (v := 3) kc_195_1275 rfl rfl ?_
                refine xi_iadd (pc' := 1277) (v := v25) kc_195_1276 rfl ev25 ?_
                refine xi_ialoadO (pc' := 1278) (v := a26) kc_195_1277 rfl (by decide) hov0 (xi_in (by omega) (by omega)) ea26 ?_
                refine xi_aload_n (pc' := 1279) (x := 1000000) kc_195_1278 rfl rfl ?_
                refine xi_iload (pc' := 1281) (x := x4) kc_195_1279 rfl rfl ?_
                refine xi_iconst (pc' := 1282) (v := 4) kc_195_1281 rfl rfl ?_
                refine xi_iadd (pc' := 1283) (v := v27) kc_195_1282 rfl ev27 ?_
                refine xi_ialoadO (pc' := 1284) (v := a28) kc_195_1283 rfl (by decide) hov0 (xi_in (by omega) (by omega)) ea28 ?_
                have A118 := ((eh116.2.1 115 (by decide)).trans A17)
                refine xi_virtual (mj := 70) (as := [.int a22, .int a24, .int a26, .int a28]) (st1 := [.int (-6)]) (lv0 := [(0, .ref 115), (1, .int a22), (2, .int a24), (3, .int a26), (4, .int a28)]) kc_195_1284 rfl rfl rfl rfl rfl A118 (Nat.le_of_ble_eq_true rfl) (hJ _ _ _ _ (by decide)) (xm_le ml_70 rfl) rfl ?_
                refine xi_aload_n (pc' := 1) (x := 115) kc_70_0 rfl rfl ?_
                refine xi_iconst (pc' := 2) (v := 0) kc_70_1 rfl rfl ?_
                refine xi_putfield (pc' := 5) (fs' := [.int 0, .int u2, .ref 116, .ref 117, .ref 118, .ref 119, .ref 120, .ref 121, .ref 122, .ref 123, .ref 124, .ref 125, .ref 126, .ref 127, .ref 128, .ref 129, .int u6, .ref 130, .int u7, .ref 131, .ref 132, .ref 133, .ref 134, .int u8, .ref 135, .ref 136, .ref 137, .ref 138, .ref 139, .ref 140, .ref 141, .ref 142, .int u9, .int u10, .int u11, .ref 143, .ref 144, .ref 145, .ref 146, .ref 147, .ref 148, .int u12, .ref 149, .ref 150, .ref 151, .int u13, .ref 152, .ref 153, .ref 154, .ref 155, .ref 156, .ref 157, .ref 158, .ref 159, .int u14, .ref 160, .int u19, .ref 161, .ref 162, .ref 163, .ref 164, .int u16, .ref 165, .ref 166]) kc_70_2 rfl rfl rfl A118 rfl rfl rfl (Nat.le_of_ble_eq_true rfl) rfl (fun hh120 eh119 => ?_)
                have K121 := xk_pf (k := 0) (v := 0) K117 (xk_wf rfl) xD_115 A118 rfl (by first | omega | decide) (by first | omega | decide) eh119 rfl
                refine xi_iload_n (pc' := 6) (x := a24) kc_70_5 rfl rfl ?_
                refine xi_iconst (pc' := 7) (v := 0) kc_70_6 rfl rfl ?_
                refine xi_iconst (pc' := 8) (v := 3) kc_70_7 rfl rfl ?_
                refine xi_static (mj := 11) (as := [.int a24, .int 0, .int 3]) (st1 := []) (lv0 := [(0, .int a24), (1, .int 0), (2, .int 3)]) kc_70_8 rfl rfl (Nat.le_of_ble_eq_true rfl) rfl rfl (Nat.le_of_ble_eq_true rfl) (hJ _ _ _ _ (by decide)) (xm_le ml_11 rfl) rfl ?_
                refine xi_iload_n (pc' := 1) (x := a24) kc_11_0 rfl rfl ?_
                refine xi_iload_n (pc' := 2) (x := 0) kc_11_1 rfl rfl ?_
                refine xi_cmf (pc' := 5) kc_11_2 rfl (xc_lt_f (X := a24.toInt) (Y := 0) rfl (by decide) (by omega)) ?_
                refine xi_iload_n (pc' := 6) (x := a24) kc_11_5 rfl rfl ?_
                refine xi_iload_n (pc' := 7) (x := 3) kc_11_6 rfl rfl ?_
                refine xi_cmf (pc' := 10) kc_11_7 rfl (xc_gt_f (X := a24.toInt) (Y := 3) rfl (by decide) (by omega)) ?_
                refine xi_iconst (pc' := 11) (v := 1) kc_11_10 rfl rfl ?_
                refine xi_goto (pc' := 15) kc_11_11 rfl ?_
                refine xi_ireturn kc_11_15 mr_11 rfl ?_
                show xw J ov 99 70 (11, [(0, .ref 115), (1, .int a22), (2, .int a24), (3, .int a26), (4, .int a28)], [.int 1], hh120) _
                refine xi_iff (pc' := 14) kc_70_11 rfl rfl ?_
                refine xi_iload_n (pc' := 15) (x := a26) kc_70_14 rfl rfl ?_
                refine xi_iconst (pc' := 16) (v := 0) kc_70_15 rfl rfl ?_
                refine xi_iconst (pc' := 17) (v := 1) kc_70_16 rfl rfl ?_
                refine xi_static (mj := 11) (as := [.int a26, .int 0, .int 1]) (st1 := []) (lv0 := [(0, .int a26), (1, .int 0), (2, .int 1)]) kc_70_17 rfl rfl (Nat.le_of_ble_eq_true rfl) rfl rfl (Nat.le_of_ble_eq_true rfl) (hJ _ _ _ _ (by decide)) (xm_le ml_11 rfl) rfl ?_
                refine xi_iload_n (pc' := 1) (x := a26) kc_11_0 rfl rfl ?_
                refine xi_iload_n (pc' := 2) (x := 0) kc_11_1 rfl rfl ?_
                refine xi_cmf (pc' := 5) kc_11_2 rfl (xc_lt_f (X := a26.toInt) (Y := 0) rfl (by decide) (by omega)) ?_
                refine xi_iload_n (pc' := 6) (x := a26) kc_11_5 rfl rfl ?_
                refine xi_iload_n (pc' := 7) (x := 1) kc_11_6 rfl rfl ?_
                refine xi_cmf (pc' := 10) kc_11_7 rfl (xc_gt_f (X := a26.toInt) (Y := 1) rfl (by decide) (by omega)) ?_
                refine xi_iconst (pc' := 11) (v := 1) kc_11_10 rfl rfl ?_
                refine xi_goto (pc' := 15) kc_11_11 rfl ?_
                refine xi_ireturn kc_11_15 mr_11 rfl ?_
                show xw J ov 99 70 (20, [(0, .ref 115), (1, .int a22), (2, .int a24), (3, .int a26), (4, .int a28)], [.int 1], hh120) _
                refine xi_ift (pc' := 30) kc_70_20 rfl rfl ?_
                refine xi_iload_n (pc' := 31) (x := a22) kc_70_30 rfl rfl ?_
                refine xi_aload_n (pc' := 32) (x := 115) kc_70_31 rfl rfl ?_
                refine xi_getfield (pc' := 35) (v := .int u2) kc_70_32 rfl rfl rfl eh119.1 rfl ?_
                refine xi_bipush (pc' := 37) (v := 24) kc_70_35 rfl rfl ?_
                refine xi_idiv (pc' := 38) (v := v90) kc_70_37 rfl ev90 (by decide) ?_
                refine xi_cmf (pc' := 41) kc_70_38 rfl (xc_lt_f (X := a22.toInt) (Y := v90.toInt) rfl rfl (by omega)) ?_
                refine xi_iload (pc' := 43) (x := a28) kc_70_41 rfl rfl ?_
                refine xi_ift (pc' := 53) kc_70_43 rfl (xc_ge_t (X := a28.toInt) (Y := 0) rfl (by decide) (by omega)) ?_
                refine xi_iload_n (pc' := 54) (x := a22) kc_70_53 rfl rfl ?_
                refine xi_bipush (pc' := 56) (v := 25) kc_70_54 rfl rfl ?_
                refine xi_cmt (pc' := 75) kc_70_56 rfl (xc_gt_t (X := a22.toInt) (Y := 25) rfl (by decide) (by omega)) ?_
                refine xi_aload_n (pc' := 76) (x := 115) kc_70_75 rfl rfl ?_
                refine xi_bipush (pc' := 78) (v := (-6)) kc_70_76 rfl rfl ?_
                refine xi_virtual (mj := 12) (as := [.int (-6)]) (st1 := []) (lv0 := [(0, .ref 115), (1, .int (-6))]) kc_70_78 rfl rfl rfl rfl rfl eh119.1 (Nat.le_of_ble_eq_true rfl) (hJ _ _ _ _ (by decide)) (xm_le ml_12 rfl) rfl ?_
                refine xi_aload_n (pc' := 1) (x := 115) kc_12_0 rfl rfl ?_
                refine xi_getfield (pc' := 4) (v := .ref 140) kc_12_1 rfl rfl rfl eh119.1 rfl ?_
                refine xi_iload_n (pc' := 5) (x := (-6)) kc_12_4 rfl rfl ?_
                refine xi_ineg (pc' := 6) (v := 6) kc_12_5 rfl rfl ?_
                refine xi_dup2 (pc' := 7) kc_12_6 rfl ⟨rfl, rfl⟩ ?_
                obtain ⟨y122, A122, hy122, ry122⟩ := xk_arr K.1 xD_140
                obtain ⟨v123, ev123, bv123, dv123⟩ := xj_get hy122 ry122 (i := 6) (by decide) (by decide)
                have A124 := ((eh119.2.1 140 (by decide)).trans ((eh116.2.1 140 (by decide)).trans A122))
                refine xi_iaload (pc' := 8) (v := v123) kc_12_7 rfl A124 (by decide) rfl (xi_in (by decide) (by rw [hy122]; decide)) ev123 ?_
                refine xi_iconst (pc' := 9) (v := 1) kc_12_8 rfl rfl ?_
                obtain ⟨v125, ev125⟩ : ∃ q : Int32, (v123 : Int32) + 1 = q := ⟨_, rfl⟩
                have rv125 := xc_rng v125
                refine xi_iadd (pc' := 10) (v := v125) kc_12_9 rfl ev125 ?_
                obtain ⟨y126, s126, hy126, ry126⟩ := xj_set (v := v125) hy122 ry122 6 (by first | omega | decide) (by first | omega | decide)
                refine xi_iastore (pc' := 11) (x' := y126) kc_12_10 rfl A124 rfl (xi_in (by decide) (by rw [hy122]; decide)) s126 (fun hh126 eh126 => ?_)
                have K127 := xk_pa K121 (xk_wa rfl) xD_140 hy126 ry126 eh126
                refine xi_iload_n (pc' := 12) (x := (-6)) kc_12_11 rfl rfl ?_
                refine xi_ireturn kc_12_12 mr_12 rfl ?_
                show xw J ov 99 70 (81, [(0, .ref 115), (1, .int a22), (2, .int a24), (3, .int a26), (4, .int a28)], [.int (-6)], hh126) _
                refine xi_ireturn kc_70_81 mr_70 rfl ?_
                show xw J ov 100 195 (1287, [(4, .int x4), (3, .ref 167), (2, .ref 115), (1, .ref 0), (0, .ref 1000000)], [.int (-6), .int (-6)], hh126) _
                refine xi_cmt (pc' := 1501) kc_195_1287 rfl rfl ?_
                obtain ⟨v128, ev128⟩ : ∃ q : Int32, x4 + 6 = q := ⟨_, rfl⟩
                have zv128 : v128.toInt = (x4.toInt + 6) := by rw [← ev128]; exact (xz_add (X := x4.toInt) (Y := 6) rfl (by decide) (by omega) (by omega)).trans (by omega)
                refine xi_iinc (pc' := 1504) (x := x4) (v := v128) (lv' := [(4, .int v128), (3, .ref 167), (2, .ref 115), (1, .ref 0), (0, .ref 1000000)]) kc_195_1501 rfl rfl ev128 rfl (xm_lt ml_195 rfl) ?_
                refine xi_goto (pc' := 23) kc_195_1504 rfl ?_
                have A129 := ((eh126.2.1 0 (by decide)).trans ((eh119.2.1 0 (by decide)).trans ((eh116.2.1 0 (by decide)).trans A3)))
                have A130 := ((eh126.2.1 115 (by decide)).trans eh119.1)
                have A131 := ((eh126.2.1 85 (by decide)).trans ((eh119.2.1 85 (by decide)).trans ((eh116.2.1 85 (by decide)).trans A20)))
                exact kk v128 hh126 (by omega) K127 ⟨((xl_of A129 rfl).trans (xl_of A130 rfl).symm), ((xl_of A131 rfl).trans (xl_of A130 rfl).symm)⟩
              · refine xi_cmf (pc' := 52) kc_177_49 rfl (xc_gt_f (X := a22.toInt) (Y := 25) rfl (by decide) (by omega)) ?_
                refine xi_iload (pc' := 54) (x := a28) kc_177_52 rfl rfl ?_
                refine xi_bipush (pc' := 56) (v := 99) kc_177_54 rfl rfl ?_
                by_cases c132 : 99 < a28.toInt
                · refine xi_cmt (pc' := 71) kc_177_56 rfl (xc_gt_t (X := a28.toInt) (Y := 99) rfl (by decide) (by omega)) ?_
                  refine xi_aload_n (pc' := 72) (x := 0) kc_177_71 rfl rfl ?_
                  refine xi_bipush (pc' := 74) (v := (-6)) kc_177_72 rfl rfl ?_
                  refine xi_virtual (mj := 90) (as := [.int (-6)]) (st1 := []) (lv0 := [(0, .ref 0), (1, .int (-6))]) kc_177_74 rfl rfl rfl rfl rfl A3 (Nat.le_of_ble_eq_true rfl) (hJ _ _ _ _ (by decide)) (xm_le ml_90 rfl) rfl ?_
                  refine xi_iload_n (pc' := 1) (x := (-6)) kc_90_0 rfl rfl ?_
                  refine xi_ineg (pc' := 2) (v := 6) kc_90_1 rfl rfl ?_
                  refine xi_istore_n (pc' := 3) (lv' := [(2, .int 6), (0, .ref 0), (1, .int (-6))]) kc_90_2 rfl rfl (xm_lt ml_90 rfl) ?_
                  refine xi_iload_n (pc' := 4) (x := 6) kc_90_3 rfl rfl ?_
                  refine xi_iff (pc' := 7) kc_90_4 rfl rfl ?_
                  refine xi_iload_n (pc' := 8) (x := 6) kc_90_7 rfl rfl ?_
                  refine xi_aload_n (pc' := 9) (x := 0) kc_90_8 rfl rfl ?_
                  refine xi_getfield (pc' := 12) (v := .ref 94) kc_90_9 rfl rfl rfl A3 rfl ?_
                  obtain ⟨y133, A133, hy133, ry133⟩ := xk_arr K.1 xD_94
                  refine xi_arraylength (pc' := 13) (n := 7) (v := 7) kc_90_12 rfl (xl_lenI (by decide) (by decide) A133 hy133) rfl ?_
                  refine xi_cmf (pc' := 16) kc_90_13 rfl rfl ?_
                  refine xi_aload_n (pc' := 17) (x := 0) kc_90_16 rfl rfl ?_
                  refine xi_getfield (pc' := 20) (v := .ref 94) kc_90_17 rfl rfl rfl A3 rfl ?_
                  refine xi_iload_n (pc' := 21) (x := 6) kc_90_20 rfl rfl ?_
                  refine xi_dup2 (pc' := 22) kc_90_21 rfl ⟨rfl, rfl⟩ ?_
                  obtain ⟨v134, ev134, bv134, dv134⟩ := xj_get hy133 ry133 (i := 6) (by decide) (by decide)
                  refine xi_iaload (pc' := 23) (v := v134) kc_90_22 rfl A133 (by decide) rfl (xi_in (by decide) (by rw [hy133]; decide)) ev134 ?_
                  refine xi_iconst (pc' := 24) (v := 1) kc_90_23 rfl rfl ?_
                  obtain ⟨v135, ev135⟩ : ∃ q : Int32, (v134 : Int32) + 1 = q := ⟨_, rfl⟩
                  have rv135 := xc_rng v135
                  refine xi_iadd (pc' := 25) (v := v135) kc_90_24 rfl ev135 ?_
                  obtain ⟨y136, s136, hy136, ry136⟩ := xj_set (v := v135) hy133 ry133 6 (by first | omega | decide) (by first | omega | decide)
                  refine xi_iastore (pc' := 26) (x' := y136) kc_90_25 rfl A133 rfl (xi_in (by decide) (by rw [hy133]; decide)) s136 (fun hh136 eh136 => ?_)
                  have K137 := xk_pa K (xk_wa rfl) xD_94 hy136 ry136 eh136
                  refine xi_iload_n (pc' := 27) (x := (-6)) kc_90_26 rfl rfl ?_
                  refine xi_ireturn kc_90_27 mr_90 rfl ?_
                  show xw J ov 99 177 (77, [(0, .ref 0), (1, .int a22), (2, .int a24), (3, .int a26), (4, .int a28)], [.int (-6)], hh136) _
                  refine xi_ireturn kc_177_77 mr_177 rfl ?_
                  show xw J ov 100 195 (1259, [(4, .int x4), (3, .ref 167), (2, .ref 115), (1, .ref 0), (0, .ref 1000000)], [.int (-6)], hh136) _
                  refine xi_aload_n (pc' := 1260) (x := 115) kc_195_1259 rfl rfl ?_
                  refine xi_aload_n (pc' := 1261) (x := 1000000) kc_195_1260 rfl rfl ?_
                  refine xi_iload (pc' := 1263) (x := x4) kc_195_1261 rfl rfl ?_
                  refine xi_iconst (pc' := 1264) (v := 1) kc_195_1263 rfl rfl ?_
                  refine xi_iadd (pc' := 1265) (v := v21) kc_195_1264 rfl ev21 ?_
                  refine xi_ialoadO (pc' := 1266) (v := a22) kc_195_1265 rfl (by decide) hov0 (xi_in (by omega) (by omega)) ea22 ?_
                  refine xi_aload_n (pc' := 1267) (x := 1000000) kc_195_1266 rfl rfl ?_
                  refine xi_iload (pc' := 1269) (x := x4) kc_195_1267 rfl rfl ?_
                  refine xi_iconst (pc' := 1270) (v := 2) kc_195_1269 rfl rfl ?_
                  refine xi_iadd (pc' := 1271) (v := v23) kc_195_1270 rfl ev23 ?_
                  refine xi_ialoadO (pc' := 1272) (v := a24) kc_195_1271 rfl (by decide) hov0 (xi_in (by omega) (by omega)) ea24 ?_
                  refine xi_aload_n (pc' := 1273) (x := 1000000) kc_195_1272 rfl rfl ?_
                  refine xi_iload (pc' := 1275) (x := x4) kc_195_1273 rfl rfl ?_
                  refine xi_iconst (pc' := 1276) (v := 3) kc_195_1275 rfl rfl ?_
                  refine xi_iadd (pc' := 1277) (v := v25) kc_195_1276 rfl ev25 ?_
                  refine xi_ialoadO (pc' := 1278) (v := a26) kc_195_1277 rfl (by decide) hov0 (xi_in (by omega) (by omega)) ea26 ?_
                  refine xi_aload_n (pc' := 1279) (x := 1000000) kc_195_1278 rfl rfl ?_
                  refine xi_iload (pc' := 1281) (x := x4) kc_195_1279 rfl rfl ?_
                  refine xi_iconst (pc' := 1282) (v := 4) kc_195_1281 rfl rfl ?_
                  refine xi_iadd (pc' := 1283) (v := v27) kc_195_1282 rfl ev27 ?_
                  refine xi_ialoadO (pc' := 1284) (v := a28) kc_195_1283 rfl (by decide) hov0 (xi_in (by omega) (by omega)) ea28 ?_
                  have A138 := ((eh136.2.1 115 (by decide)).trans A17)
                  refine xi_virtual (mj := 70) (as := [.int a22, .int a24, .int a26, .int a28]) (st1 := [.int (-6)]) (lv0 := [(0, .ref 115), (1, .int a22), (2, .int a24), (3, .int a26), (4, .int a28)]) kc_195_1284 rfl rfl rfl rfl rfl A138 (Nat.le_of_ble_eq_true rfl) (hJ _ _ _ _ (by decide)) (xm_le ml_70 rfl) rfl ?_
                  refine xi_aload_n (pc' := 1) (x := 115) kc_70_0 rfl rfl ?_
                  refine xi_iconst (pc' := 2) (v := 0) kc_70_1 rfl rfl ?_
                  refine xi_putfield (pc' := 5) (fs' := [.int 0, .int u2, .ref 116, .ref 117, .ref 118, .ref 119, .ref 120, .ref 121, .ref 122, .ref 123, .ref 124, .ref 125, .ref 126, .ref 127, .ref 128, .ref 129, .int u6, .ref 130, .int u7, .ref 131, .ref 132, .ref 133, .ref 134, .int u8, .ref 135, .ref 136, .ref 137, .ref 138, .ref 139, .ref 140, .ref 141, .ref 142, .int u9, .int u10, .int u11, .ref 143, .ref 144, .ref 145, .ref 146, .ref 147, .ref 148, .int u12, .ref 149, .ref 150, .ref 151, .int u13, .ref 152, .ref 153, .ref 154, .ref 155, .ref 156, .ref 157, .ref 158, .ref 159, .int u14, .ref 160, .int u19, .ref 161, .ref 162, .ref 163, .ref 164, .int u16, .ref 165, .ref 166]) kc_70_2 rfl rfl rfl A138 rfl rfl rfl (Nat.le_of_ble_eq_true rfl) rfl (fun hh140 eh139 => ?_)
                  have K141 := xk_pf (k := 0) (v := 0) K137 (xk_wf rfl) xD_115 A138 rfl (by first | omega | decide) (by first | omega | decide) eh139 rfl
                  refine xi_iload_n (pc' := 6) (x := a24) kc_70_5 rfl rfl ?_
                  refine xi_iconst (pc' := 7) (v := 0) kc_70_6 rfl rfl ?_
                  refine xi_iconst (pc' := 8) (v := 3) kc_70_7 rfl rfl ?_
                  refine xi_static (mj := 11) (as := [.int a24, .int 0, .int 3]) (st1 := []) (lv0 := [(0, .int a24), (1, .int 0), (2, .int 3)]) kc_70_8 rfl rfl (Nat.le_of_ble_eq_true rfl) rfl rfl (Nat.le_of_ble_eq_true rfl) (hJ _ _ _ _ (by decide)) (xm_le ml_11 rfl) rfl ?_
                  refine xi_iload_n (pc' := 1) (x := a24) kc_11_0 rfl rfl ?_
                  refine xi_iload_n (pc' := 2) (x := 0) kc_11_1 rfl rfl ?_
                  refine xi_cmf (pc' := 5) kc_11_2 rfl (xc_lt_f (X := a24.toInt) (Y := 0) rfl (by decide) (by omega)) ?_
                  refine xi_iload_n (pc' := 6) (x := a24) kc_11_5 rfl rfl ?_
                  refine xi_iload_n (pc' := 7) (x := 3) kc_11_6 rfl rfl ?_
                  refine xi_cmf (pc' := 10) kc_11_7 rfl (xc_gt_f (X := a24.toInt) (Y := 3) rfl (by decide) (by omega)) ?_
                  refine xi_iconst (pc' := 11) (v := 1) kc_11_10 rfl rfl ?_
                  refine xi_goto (pc' := 15) kc_11_11 rfl ?_
                  refine xi_ireturn kc_11_15 mr_11 rfl ?_
                  show xw J ov 99 70 (11, [(0, .ref 115), (1, .int a22), (2, .int a24), (3, .int a26), (4, .int a28)], [.int 1], hh140) _
                  refine xi_iff (pc' := 14) kc_70_11 rfl rfl ?_
                  refine xi_iload_n (pc' := 15) (x := a26) kc_70_14 rfl rfl ?_
                  refine xi_iconst (pc' := 16) (v := 0) kc_70_15 rfl rfl ?_
                  refine xi_iconst (pc' := 17) (v := 1) kc_70_16 rfl rfl ?_
                  refine xi_static (mj := 11) (as := [.int a26, .int 0, .int 1]) (st1 := []) (lv0 := [(0, .int a26), (1, .int 0), (2, .int 1)]) kc_70_17 rfl rfl (Nat.le_of_ble_eq_true rfl) rfl rfl (Nat.le_of_ble_eq_true rfl) (hJ _ _ _ _ (by decide)) (xm_le ml_11 rfl) rfl ?_
                  refine xi_iload_n (pc' := 1) (x := a26) kc_11_0 rfl rfl ?_
                  refine xi_iload_n (pc' := 2) (x := 0) kc_11_1 rfl rfl ?_
                  refine xi_cmf (pc' := 5) kc_11_2 rfl (xc_lt_f (X := a26.toInt) (Y := 0) rfl (by decide) (by omega)) ?_
                  refine xi_iload_n (pc' := 6) (x := a26) kc_11_5 rfl rfl ?_
                  refine xi_iload_n (pc' := 7) (x := 1) kc_11_6 rfl rfl ?_
                  refine xi_cmf (pc' := 10) kc_11_7 rfl (xc_gt_f (X := a26.toInt) (Y := 1) rfl (by decide) (by omega)) ?_
                  refine xi_iconst (pc' := 11) (v := 1) kc_11_10 rfl rfl ?_
                  refine xi_goto (pc' := 15) kc_11_11 rfl ?_
                  refine xi_ireturn kc_11_15 mr_11 rfl ?_
                  show xw J ov 99 70 (20, [(0, .ref 115), (1, .int a22), (2, .int a24), (3, .int a26), (4, .int a28)], [.int 1], hh140) _
                  refine xi_ift (pc' := 30) kc_70_20 rfl rfl ?_
                  refine xi_iload_n (pc' := 31) (x := a22) kc_70_30 rfl rfl ?_
                  refine xi_aload_n (pc' := 32) (x := 115) kc_70_31 rfl rfl ?_
                  refine xi_getfield (pc' := 35) (v := .int u2) kc_70_32 rfl rfl rfl eh139.1 rfl ?_
                  refine xi_bipush (pc' := 37) (v := 24) kc_70_35 rfl rfl ?_
                  refine xi_idiv (pc' := 38) (v := v90) kc_70_37 rfl ev90 (by decide) ?_
                  refine xi_cmf (pc' := 41) kc_70_38 rfl (xc_lt_f (X := a22.toInt) (Y := v90.toInt) rfl rfl (by omega)) ?_
                  refine xi_iload (pc' := 43) (x := a28) kc_70_41 rfl rfl ?_
                  refine xi_ift (pc' := 53) kc_70_43 rfl (xc_ge_t (X := a28.toInt) (Y := 0) rfl (by decide) (by omega)) ?_
                  refine xi_iload_n (pc' := 54) (x := a22) kc_70_53 rfl rfl ?_
                  refine xi_bipush (pc' := 56) (v := 25) kc_70_54 rfl rfl ?_
                  refine xi_cmf (pc' := 59) kc_70_56 rfl (xc_gt_f (X := a22.toInt) (Y := 25) rfl (by decide) (by omega)) ?_
                  refine xi_iload (pc' := 61) (x := a28) kc_70_59 rfl rfl ?_
                  refine xi_bipush (pc' := 63) (v := 99) kc_70_61 rfl rfl ?_
                  refine xi_cmt (pc' := 75) kc_70_63 rfl (xc_gt_t (X := a28.toInt) (Y := 99) rfl (by decide) (by omega)) ?_
                  refine xi_aload_n (pc' := 76) (x := 115) kc_70_75 rfl rfl ?_
                  refine xi_bipush (pc' := 78) (v := (-6)) kc_70_76 rfl rfl ?_
                  refine xi_virtual (mj := 12) (as := [.int (-6)]) (st1 := []) (lv0 := [(0, .ref 115), (1, .int (-6))]) kc_70_78 rfl rfl rfl rfl rfl eh139.1 (Nat.le_of_ble_eq_true rfl) (hJ _ _ _ _ (by decide)) (xm_le ml_12 rfl) rfl ?_
                  refine xi_aload_n (pc' := 1) (x := 115) kc_12_0 rfl rfl ?_
                  refine xi_getfield (pc' := 4) (v := .ref 140) kc_12_1 rfl rfl rfl eh139.1 rfl ?_
                  refine xi_iload_n (pc' := 5) (x := (-6)) kc_12_4 rfl rfl ?_
                  refine xi_ineg (pc' := 6) (v := 6) kc_12_5 rfl rfl ?_
                  refine xi_dup2 (pc' := 7) kc_12_6 rfl ⟨rfl, rfl⟩ ?_
                  obtain ⟨y142, A142, hy142, ry142⟩ := xk_arr K.1 xD_140
                  obtain ⟨v143, ev143, bv143, dv143⟩ := xj_get hy142 ry142 (i := 6) (by decide) (by decide)
                  have A144 := ((eh139.2.1 140 (by decide)).trans ((eh136.2.1 140 (by decide)).trans A142))
                  refine xi_iaload (pc' := 8) (v := v143) kc_12_7 rfl A144 (by decide) rfl (xi_in (by decide) (by rw [hy142]; decide)) ev143 ?_
                  refine xi_iconst (pc' := 9) (v := 1) kc_12_8 rfl rfl ?_
                  obtain ⟨v145, ev145⟩ : ∃ q : Int32, (v143 : Int32) + 1 = q := ⟨_, rfl⟩
                  have rv145 := xc_rng v145
                  refine xi_iadd (pc' := 10) (v := v145) kc_12_9 rfl ev145 ?_
                  obtain ⟨y146, s146, hy146, ry146⟩ := xj_set (v := v145) hy142 ry142 6 (by first | omega | decide) (by first | omega | decide)
                  refine xi_iastore (pc' := 11) (x' := y146) kc_12_10 rfl A144 rfl (xi_in (by decide) (by rw [hy142]; decide)) s146 (fun hh146 eh146 => ?_)
                  have K147 := xk_pa K141 (xk_wa rfl) xD_140 hy146 ry146 eh146
                  refine xi_iload_n (pc' := 12) (x := (-6)) kc_12_11 rfl rfl ?_
                  refine xi_ireturn kc_12_12 mr_12 rfl ?_
                  show xw J ov 99 70 (81, [(0, .ref 115), (1, .int a22), (2, .int a24), (3, .int a26), (4, .int a28)], [.int (-6)], hh146) _
                  refine xi_ireturn kc_70_81 mr_70 rfl ?_
                  show xw J ov 100 195 (1287, [(4, .int x4), (3, .ref 167), (2, .ref 115), (1, .ref 0), (0, .ref 1000000)], [.int (-6), .int (-6)], hh146) _
                  refine xi_cmt (pc' := 1501) kc_195_1287 rfl rfl ?_
                  obtain ⟨v148, ev148⟩ : ∃ q : Int32, x4 + 6 = q := ⟨_, rfl⟩
                  have zv148 : v148.toInt = (x4.toInt + 6) := by rw [← ev148]; exact (xz_add (X := x4.toInt) (Y := 6) rfl (by decide) (by omega) (by omega)).trans (by omega)
                  refine xi_iinc (pc' := 1504) (x := x4) (v := v148) (lv' := [(4, .int v148), (3, .ref 167), (2, .ref 115), (1, .ref 0), (0, .ref 1000000)]) kc_195_1501 rfl rfl ev148 rfl (xm_lt ml_195 rfl) ?_
                  refine xi_goto (pc' := 23) kc_195_1504 rfl ?_
                  have A149 := ((eh146.2.1 0 (by decide)).trans ((eh139.2.1 0 (by decide)).trans ((eh136.2.1 0 (by decide)).trans A3)))
                  have A150 := ((eh146.2.1 115 (by decide)).trans eh139.1)
                  have A151 := ((eh146.2.1 85 (by decide)).trans ((eh139.2.1 85 (by decide)).trans ((eh136.2.1 85 (by decide)).trans A20)))
                  exact kk v148 hh146 (by omega) K147 ⟨((xl_of A149 rfl).trans (xl_of A150 rfl).symm), ((xl_of A151 rfl).trans (xl_of A150 rfl).symm)⟩
                · refine xi_cmf (pc' := 59) kc_177_56 rfl (xc_gt_f (X := a28.toInt) (Y := 99) rfl (by decide) (by omega)) ?_
                  refine xi_aload_n (pc' := 60) (x := 0) kc_177_59 rfl rfl ?_
                  refine xi_getfield (pc' := 63) (v := .ref 85) kc_177_60 rfl rfl rfl A3 rfl ?_
                  refine xi_getfield (pc' := 66) (v := .int u19) kc_177_63 rfl rfl rfl A20 rfl ?_
                  refine xi_bipush (pc' := 68) (v := 12) kc_177_66 rfl rfl ?_
                  by_cases c152 : u19.toInt < 12
                  · refine xi_cmt (pc' := 78) kc_177_68 rfl (xc_lt_t (X := u19.toInt) (Y := 12) rfl (by decide) (by omega)) ?_
                    refine xi_aload_n (pc' := 79) (x := 0) kc_177_78 rfl rfl ?_
                    refine xi_getfield (pc' := 82) (v := .ref 85) kc_177_79 rfl rfl rfl A3 rfl ?_
                    refine xi_iload_n (pc' := 83) (x := a22) kc_177_82 rfl rfl ?_
                    refine xi_iload_n (pc' := 84) (x := a24) kc_177_83 rfl rfl ?_
                    refine xi_iload_n (pc' := 85) (x := a26) kc_177_84 rfl rfl ?_
                    refine xi_iload (pc' := 87) (x := a28) kc_177_85 rfl rfl ?_
                    refine xi_virtual (mj := 178) (as := [.int a22, .int a24, .int a26, .int a28]) (st1 := []) (lv0 := [(0, .ref 85), (1, .int a22), (2, .int a24), (3, .int a26), (4, .int a28)]) kc_177_87 rfl rfl rfl rfl rfl A20 (Nat.le_of_ble_eq_true rfl) (hJ _ _ _ _ (by decide)) (xm_le ml_178 rfl) rfl ?_
                    refine xi_aload_n (pc' := 1) (x := 85) kc_178_0 rfl rfl ?_
                    refine xi_getfield (pc' := 4) (v := .int u19) kc_178_1 rfl rfl rfl A20 rfl ?_
                    refine xi_bipush (pc' := 6) (v := 12) kc_178_4 rfl rfl ?_
                    refine xi_cmt (pc' := 12) kc_178_6 rfl (xc_lt_t (X := u19.toInt) (Y := 12) rfl (by decide) (by omega)) ?_
                    refine xi_aload_n (pc' := 13) (x := 85) kc_178_12 rfl rfl ?_
                    refine xi_getfield (pc' := 16) (v := .ref 86) kc_178_13 rfl rfl rfl A20 rfl ?_
                    refine xi_aload_n (pc' := 17) (x := 85) kc_178_16 rfl rfl ?_
                    refine xi_getfield (pc' := 20) (v := .int u19) kc_178_17 rfl rfl rfl A20 rfl ?_
                    refine xi_iload_n (pc' := 21) (x := a22) kc_178_20 rfl rfl ?_
                    obtain ⟨y153, A153, hy153, ry153⟩ := xk_arr K.1 xD_86
                    obtain ⟨y154, s154, hy154, ry154⟩ := xj_set (v := a22) hy153 ry153 u19 (by first | omega | decide) (by first | omega | decide)
                    refine xi_iastore (pc' := 22) (x' := y154) kc_178_21 rfl A153 rfl (xi_in (by omega) (by rw [hy153]; omega)) s154 (fun hh154 eh154 => ?_)
                    have K155 := xk_pa K (xk_wa rfl) xD_86 hy154 ry154 eh154
                    refine xi_aload_n (pc' := 23) (x := 85) kc_178_22 rfl rfl ?_
                    have A156 := ((eh154.2.1 85 (by decide)).trans A20)
                    refine xi_getfield (pc' := 26) (v := .ref 87) kc_178_23 rfl rfl rfl A156 rfl ?_
                    refine xi_aload_n (pc' := 27) (x := 85) kc_178_26 rfl rfl ?_
                    refine xi_getfield (pc' := 30) (v := .int u19) kc_178_27 rfl rfl rfl A156 rfl ?_
                    refine xi_iload_n (pc' := 31) (x := a24) kc_178_30 rfl rfl ?_
                    obtain ⟨y157, A157, hy157, ry157⟩ := xk_arr K.1 xD_87
                    have A158 := ((eh154.2.1 87 (by decide)).trans A157)
                    obtain ⟨y159, s159, hy159, ry159⟩ := xj_set (v := a24) hy157 ry157 u19 (by first | omega | decide) (by first | omega | decide)
                    refine xi_iastore (pc' := 32) (x' := y159) kc_178_31 rfl A158 rfl (xi_in (by omega) (by rw [hy157]; omega)) s159 (fun hh159 eh159 => ?_)
                    have K160 := xk_pa K155 (xk_wa rfl) xD_87 hy159 ry159 eh159
                    refine xi_aload_n (pc' := 33) (x := 85) kc_178_32 rfl rfl ?_
                    have A161 := ((eh159.2.1 85 (by decide)).trans A156)
                    refine xi_getfield (pc' := 36) (v := .ref 88) kc_178_33 rfl rfl rfl A161 rfl ?_
                    refine xi_aload_n (pc' := 37) (x := 85) kc_178_36 rfl rfl ?_
                    refine xi_getfield (pc' := 40) (v := .int u19) kc_178_37 rfl rfl rfl A161 rfl ?_
                    refine xi_iload_n (pc' := 41) (x := a26) kc_178_40 rfl rfl ?_
                    obtain ⟨y162, A162, hy162, ry162⟩ := xk_arr K.1 xD_88
                    have A163 := ((eh159.2.1 88 (by decide)).trans ((eh154.2.1 88 (by decide)).trans A162))
                    obtain ⟨y164, s164, hy164, ry164⟩ := xj_set (v := a26) hy162 ry162 u19 (by first | omega | decide) (by first | omega | decide)
                    refine xi_iastore (pc' := 42) (x' := y164) kc_178_41 rfl A163 rfl (xi_in (by omega) (by rw [hy162]; omega)) s164 (fun hh164 eh164 => ?_)
                    have K165 := xk_pa K160 (xk_wa rfl) xD_88 hy164 ry164 eh164
                    refine xi_aload_n (pc' := 43) (x := 85) kc_178_42 rfl rfl ?_
                    have A166 := ((eh164.2.1 85 (by decide)).trans A161)
                    refine xi_getfield (pc' := 46) (v := .ref 89) kc_178_43 rfl rfl rfl A166 rfl ?_
                    refine xi_aload_n (pc' := 47) (x := 85) kc_178_46 rfl rfl ?_
                    refine xi_getfield (pc' := 50) (v := .int u19) kc_178_47 rfl rfl rfl A166 rfl ?_
                    refine xi_iload (pc' := 52) (x := a28) kc_178_50 rfl rfl ?_
                    obtain ⟨y167, A167, hy167, ry167⟩ := xk_arr K.1 xD_89
                    have A168 := ((eh164.2.1 89 (by decide)).trans ((eh159.2.1 89 (by decide)).trans ((eh154.2.1 89 (by decide)).trans A167)))
                    obtain ⟨y169, s169, hy169, ry169⟩ := xj_set (v := a28) hy167 ry167 u19 (by first | omega | decide) (by first | omega | decide)
                    refine xi_iastore (pc' := 53) (x' := y169) kc_178_52 rfl A168 rfl (xi_in (by omega) (by rw [hy167]; omega)) s169 (fun hh169 eh169 => ?_)
                    have K170 := xk_pa K165 (xk_wa rfl) xD_89 hy169 ry169 eh169
                    refine xi_aload_n (pc' := 54) (x := 85) kc_178_53 rfl rfl ?_
                    refine xi_dup (pc' := 55) kc_178_54 rfl rfl ?_
                    have A171 := ((eh169.2.1 85 (by decide)).trans A166)
                    refine xi_getfield (pc' := 58) (v := .int u19) kc_178_55 rfl rfl rfl A171 rfl ?_
                    refine xi_iconst (pc' := 59) (v := 1) kc_178_58 rfl rfl ?_
                    obtain ⟨v172, ev172⟩ : ∃ q : Int32, u19 + 1 = q := ⟨_, rfl⟩
                    have zv172 : v172.toInt = (u19.toInt + 1) := by rw [← ev172]; exact (xz_add (X := u19.toInt) (Y := 1) rfl (by decide) (by omega) (by omega)).trans (by omega)
                    refine xi_iadd (pc' := 60) (v := v172) kc_178_59 rfl ev172 ?_
                    refine xi_putfield (pc' := 63) (fs' := [.ref 86, .ref 87, .ref 88, .ref 89, .ref 90, .ref 91, .ref 92, .int u18, .int v172]) kc_178_60 rfl rfl rfl A171 rfl rfl rfl (Nat.le_of_ble_eq_true rfl) rfl (fun hh174 eh173 => ?_)
                    have K175 := xk_pf (k := 8) (v := v172) K170 (xk_wf rfl) xD_85 A171 rfl (by first | omega | decide) (by first | omega | decide) eh173 rfl
                    refine xi_aload_n (pc' := 64) (x := 85) kc_178_63 rfl rfl ?_
                    refine xi_getfield (pc' := 67) (v := .int v172) kc_178_64 rfl rfl rfl eh173.1 rfl ?_
                    refine xi_iconst (pc' := 68) (v := 1) kc_178_67 rfl rfl ?_
                    obtain ⟨v176, ev176⟩ : ∃ q : Int32, v172 - 1 = q := ⟨_, rfl⟩
                    have zv176 : v176.toInt = u19.toInt := by rw [← ev176]; exact (xz_sub (X := (u19.toInt + 1)) (Y := 1) zv172 (by decide) (by omega) (by omega)).trans (by omega)
                    refine xi_isub (pc' := 69) (v := v176) kc_178_68 rfl ev176 ?_
                    refine xi_ireturn kc_178_69 mr_178 rfl ?_
                    show xw J ov 99 177 (90, [(0, .ref 0), (1, .int a22), (2, .int a24), (3, .int a26), (4, .int a28)], [.int v176], hh174) _
                    refine xi_ireturn kc_177_90 mr_177 rfl ?_
                    show xw J ov 100 195 (1259, [(4, .int x4), (3, .ref 167), (2, .ref 115), (1, .ref 0), (0, .ref 1000000)], [.int v176], hh174) _
                    refine xi_aload_n (pc' := 1260) (x := 115) kc_195_1259 rfl rfl ?_
                    refine xi_aload_n (pc' := 1261) (x := 1000000) kc_195_1260 rfl rfl ?_
                    refine xi_iload (pc' := 1263) (x := x4) kc_195_1261 rfl rfl ?_
                    refine xi_iconst (pc' := 1264) (v := 1) kc_195_1263 rfl rfl ?_
                    refine xi_iadd (pc' := 1265) (v := v21) kc_195_1264 rfl ev21 ?_
                    refine xi_ialoadO (pc' := 1266) (v := a22) kc_195_1265 rfl (by decide) hov0 (xi_in (by omega) (by omega)) ea22 ?_
                    refine xi_aload_n (pc' := 1267) (x := 1000000) kc_195_1266 rfl rfl ?_
                    refine xi_iload (pc' := 1269) (x := x4) kc_195_1267 rfl rfl ?_
                    refine xi_iconst (pc' := 1270) (v := 2) kc_195_1269 rfl rfl ?_
                    refine xi_iadd (pc' := 1271) (v := v23) kc_195_1270 rfl ev23 ?_
                    refine xi_ialoadO (pc' := 1272) (v := a24) kc_195_1271 rfl (by decide) hov0 (xi_in (by omega) (by omega)) ea24 ?_
                    refine xi_aload_n (pc' := 1273) (x := 1000000) kc_195_1272 rfl rfl ?_
                    refine xi_iload (pc' := 1275) (x := x4) kc_195_1273 rfl rfl ?_
                    refine xi_iconst (pc' := 1276) (v := 3) kc_195_1275 rfl rfl ?_
                    refine xi_iadd (pc' := 1277) (v := v25) kc_195_1276 rfl ev25 ?_
                    refine xi_ialoadO (pc' := 1278) (v := a26) kc_195_1277 rfl (by decide) hov0 (xi_in (by omega) (by omega)) ea26 ?_
                    refine xi_aload_n (pc' := 1279) (x := 1000000) kc_195_1278 rfl rfl ?_
                    refine xi_iload (pc' := 1281) (x := x4) kc_195_1279 rfl rfl ?_
                    refine xi_iconst (pc' := 1282) (v := 4) kc_195_1281 rfl rfl ?_
                    refine xi_iadd (pc' := 1283) (v := v27) kc_195_1282 rfl ev27 ?_
                    refine xi_ialoadO (pc' := 1284) (v := a28) kc_195_1283 rfl (by decide) hov0 (xi_in (by omega) (by omega)) ea28 ?_
                    have A177 := ((eh173.2.1 115 (by decide)).trans ((eh169.2.1 115 (by decide)).trans ((eh164.2.1 115 (by decide)).trans ((eh159.2.1 115 (by decide)).trans ((eh154.2.1 115 (by decide)).trans A17)))))
                    refine xi_virtual (mj := 70) (as := [.int a22, .int a24, .int a26, .int a28]) (st1 := [.int v176]) (lv0 := [(0, .ref 115), (1, .int a22), (2, .int a24), (3, .int a26), (4, .int a28)]) kc_195_1284 rfl rfl rfl rfl rfl A177 (Nat.le_of_ble_eq_true rfl) (hJ _ _ _ _ (by decide)) (xm_le ml_70 rfl) rfl ?_
                    refine xi_aload_n (pc' := 1) (x := 115) kc_70_0 rfl rfl ?_
                    refine xi_iconst (pc' := 2) (v := 0) kc_70_1 rfl rfl ?_
                    refine xi_putfield (pc' := 5) (fs' := [.int 0, .int u2, .ref 116, .ref 117, .ref 118, .ref 119, .ref 120, .ref 121, .ref 122, .ref 123, .ref 124, .ref 125, .ref 126, .ref 127, .ref 128, .ref 129, .int u6, .ref 130, .int u7, .ref 131, .ref 132, .ref 133, .ref 134, .int u8, .ref 135, .ref 136, .ref 137, .ref 138, .ref 139, .ref 140, .ref 141, .ref 142, .int u9, .int u10, .int u11, .ref 143, .ref 144, .ref 145, .ref 146, .ref 147, .ref 148, .int u12, .ref 149, .ref 150, .ref 151, .int u13, .ref 152, .ref 153, .ref 154, .ref 155, .ref 156, .ref 157, .ref 158, .ref 159, .int u14, .ref 160, .int u19, .ref 161, .ref 162, .ref 163, .ref 164, .int u16, .ref 165, .ref 166]) kc_70_2 rfl rfl rfl A177 rfl rfl rfl (Nat.le_of_ble_eq_true rfl) rfl (fun hh179 eh178 => ?_)
                    have K180 := xk_pf (k := 0) (v := 0) K175 (xk_wf rfl) xD_115 A177 rfl (by first | omega | decide) (by first | omega | decide) eh178 rfl
                    refine xi_iload_n (pc' := 6) (x := a24) kc_70_5 rfl rfl ?_
                    refine xi_iconst (pc' := 7) (v := 0) kc_70_6 rfl rfl ?_
                    refine xi_iconst (pc' := 8) (v := 3) kc_70_7 rfl rfl ?_
                    refine xi_static (mj := 11) (as := [.int a24, .int 0, .int 3]) (st1 := []) (lv0 := [(0, .int a24), (1, .int 0), (2, .int 3)]) kc_70_8 rfl rfl (Nat.le_of_ble_eq_true rfl) rfl rfl (Nat.le_of_ble_eq_true rfl) (hJ _ _ _ _ (by decide)) (xm_le ml_11 rfl) rfl ?_
                    refine xi_iload_n (pc' := 1) (x := a24) kc_11_0 rfl rfl ?_
                    refine xi_iload_n (pc' := 2) (x := 0) kc_11_1 rfl rfl ?_
                    refine xi_cmf (pc' := 5) kc_11_2 rfl (xc_lt_f (X := a24.toInt) (Y := 0) rfl (by decide) (by omega)) ?_
                    refine xi_iload_n (pc' := 6) (x := a24) kc_11_5 rfl rfl ?_
                    refine xi_iload_n (pc' := 7) (x := 3) kc_11_6 rfl rfl ?_
                    refine xi_cmf (pc' := 10) kc_11_7 rfl (xc_gt_f (X := a24.toInt) (Y := 3) rfl (by decide) (by omega)) ?_
                    refine xi_iconst (pc' := 11) (v := 1) kc_11_10 rfl rfl ?_
                    refine xi_goto (pc' := 15) kc_11_11 rfl ?_
                    refine xi_ireturn kc_11_15 mr_11 rfl ?_
                    show xw J ov 99 70 (11, [(0, .ref 115), (1, .int a22), (2, .int a24), (3, .int a26), (4, .int a28)], [.int 1], hh179) _
                    refine xi_iff (pc' := 14) kc_70_11 rfl rfl ?_
                    refine xi_iload_n (pc' := 15) (x := a26) kc_70_14 rfl rfl ?_
                    refine xi_iconst (pc' := 16) (v := 0) kc_70_15 rfl rfl ?_
                    refine xi_iconst (pc' := 17) (v := 1) kc_70_16 rfl rfl ?_
                    refine xi_static (mj := 11) (as := [.int a26, .int 0, .int 1]) (st1 := []) (lv0 := [(0, .int a26), (1, .int 0), (2, .int 1)]) kc_70_17 rfl rfl (Nat.le_of_ble_eq_true rfl) rfl rfl (Nat.le_of_ble_eq_true rfl) (hJ _ _ _ _ (by decide)) (xm_le ml_11 rfl) rfl ?_
                    refine xi_iload_n (pc' := 1) (x := a26) kc_11_0 rfl rfl ?_
                    refine xi_iload_n (pc' := 2) (x := 0) kc_11_1 rfl rfl ?_
                    refine xi_cmf (pc' := 5) kc_11_2 rfl (xc_lt_f (X := a26.toInt) (Y := 0) rfl (by decide) (by omega)) ?_
                    refine xi_iload_n (pc' := 6) (x := a26) kc_11_5 rfl rfl ?_
                    refine xi_iload_n (pc' := 7) (x := 1) kc_11_6 rfl rfl ?_
                    refine xi_cmf (pc' := 10) kc_11_7 rfl (xc_gt_f (X := a26.toInt) (Y := 1) rfl (by decide) (by omega)) ?_
                    refine xi_iconst (pc' := 11) (v := 1) kc_11_10 rfl rfl ?_
                    refine xi_goto (pc' := 15) kc_11_11 rfl ?_
                    refine xi_ireturn kc_11_15 mr_11 rfl ?_
                    show xw J ov 99 70 (20, [(0, .ref 115), (1, .int a22), (2, .int a24), (3, .int a26), (4, .int a28)], [.int 1], hh179) _
                    refine xi_ift (pc' := 30) kc_70_20 rfl rfl ?_
                    refine xi_iload_n (pc' := 31) (x := a22) kc_70_30 rfl rfl ?_
                    refine xi_aload_n (pc' := 32) (x := 115) kc_70_31 rfl rfl ?_
                    refine xi_getfield (pc' := 35) (v := .int u2) kc_70_32 rfl rfl rfl eh178.1 rfl ?_
                    refine xi_bipush (pc' := 37) (v := 24) kc_70_35 rfl rfl ?_
                    refine xi_idiv (pc' := 38) (v := v90) kc_70_37 rfl ev90 (by decide) ?_
                    refine xi_cmf (pc' := 41) kc_70_38 rfl (xc_lt_f (X := a22.toInt) (Y := v90.toInt) rfl rfl (by omega)) ?_
                    refine xi_iload (pc' := 43) (x := a28) kc_70_41 rfl rfl ?_
                    refine xi_ift (pc' := 53) kc_70_43 rfl (xc_ge_t (X := a28.toInt) (Y := 0) rfl (by decide) (by omega)) ?_
                    refine xi_iload_n (pc' := 54) (x := a22) kc_70_53 rfl rfl ?_
                    refine xi_bipush (pc' := 56) (v := 25) kc_70_54 rfl rfl ?_
                    refine xi_cmf (pc' := 59) kc_70_56 rfl (xc_gt_f (X := a22.toInt) (Y := 25) rfl (by decide) (by omega)) ?_
                    refine xi_iload (pc' := 61) (x := a28) kc_70_59 rfl rfl ?_
                    refine xi_bipush (pc' := 63) (v := 99) kc_70_61 rfl rfl ?_
                    refine xi_cmf (pc' := 66) kc_70_63 rfl (xc_gt_f (X := a28.toInt) (Y := 99) rfl (by decide) (by omega)) ?_
                    refine xi_aload_n (pc' := 67) (x := 115) kc_70_66 rfl rfl ?_
                    refine xi_getfield (pc' := 70) (v := .int u19) kc_70_67 rfl rfl rfl eh178.1 rfl ?_
                    refine xi_bipush (pc' := 72) (v := 12) kc_70_70 rfl rfl ?_
                    refine xi_cmt (pc' := 82) kc_70_72 rfl (xc_ne_t (X := u19.toInt) (Y := 12) rfl (by decide) (by omega)) ?_
                    refine xi_aload_n (pc' := 83) (x := 115) kc_70_82 rfl rfl ?_
                    refine xi_getfield (pc' := 86) (v := .ref 161) kc_70_83 rfl rfl rfl eh178.1 rfl ?_
                    refine xi_aload_n (pc' := 87) (x := 115) kc_70_86 rfl rfl ?_
                    refine xi_getfield (pc' := 90) (v := .int u19) kc_70_87 rfl rfl rfl eh178.1 rfl ?_
                    refine xi_iload_n (pc' := 91) (x := a22) kc_70_90 rfl rfl ?_
                    obtain ⟨y181, A181, hy181, ry181⟩ := xk_arr K.1 xD_161
                    have A182 := ((eh178.2.1 161 (by decide)).trans ((eh173.2.1 161 (by decide)).trans ((eh169.2.1 161 (by decide)).trans ((eh164.2.1 161 (by decide)).trans ((eh159.2.1 161 (by decide)).trans ((eh154.2.1 161 (by decide)).trans A181))))))
                    obtain ⟨y183, s183, hy183, ry183⟩ := xj_set (v := a22) hy181 ry181 u19 (by first | omega | decide) (by first | omega | decide)
                    refine xi_iastore (pc' := 92) (x' := y183) kc_70_91 rfl A182 rfl (xi_in (by omega) (by rw [hy181]; omega)) s183 (fun hh183 eh183 => ?_)
                    have K184 := xk_pa K180 (xk_wa rfl) xD_161 hy183 ry183 eh183
                    refine xi_aload_n (pc' := 93) (x := 115) kc_70_92 rfl rfl ?_
                    have A185 := ((eh183.2.1 115 (by decide)).trans eh178.1)
                    refine xi_getfield (pc' := 96) (v := .ref 162) kc_70_93 rfl rfl rfl A185 rfl ?_
                    refine xi_aload_n (pc' := 97) (x := 115) kc_70_96 rfl rfl ?_
                    refine xi_getfield (pc' := 100) (v := .int u19) kc_70_97 rfl rfl rfl A185 rfl ?_
                    refine xi_iload_n (pc' := 101) (x := a24) kc_70_100 rfl rfl ?_
                    obtain ⟨y186, A186, hy186, ry186⟩ := xk_arr K.1 xD_162
                    have A187 := ((eh183.2.1 162 (by decide)).trans ((eh178.2.1 162 (by decide)).trans ((eh173.2.1 162 (by decide)).trans ((eh169.2.1 162 (by decide)).trans ((eh164.2.1 162 (by decide)).trans ((eh159.2.1 162 (by decide)).trans ((eh154.2.1 162 (by decide)).trans A186)))))))
                    obtain ⟨y188, s188, hy188, ry188⟩ := xj_set (v := a24) hy186 ry186 u19 (by first | omega | decide) (by first | omega | decide)
                    refine xi_iastore (pc' := 102) (x' := y188) kc_70_101 rfl A187 rfl (xi_in (by omega) (by rw [hy186]; omega)) s188 (fun hh188 eh188 => ?_)
                    have K189 := xk_pa K184 (xk_wa rfl) xD_162 hy188 ry188 eh188
                    refine xi_aload_n (pc' := 103) (x := 115) kc_70_102 rfl rfl ?_
                    have A190 := ((eh188.2.1 115 (by decide)).trans A185)
                    refine xi_getfield (pc' := 106) (v := .ref 163) kc_70_103 rfl rfl rfl A190 rfl ?_
                    refine xi_aload_n (pc' := 107) (x := 115) kc_70_106 rfl rfl ?_
                    refine xi_getfield (pc' := 110) (v := .int u19) kc_70_107 rfl rfl rfl A190 rfl ?_
                    refine xi_iload_n (pc' := 111) (x := a26) kc_70_110 rfl rfl ?_
                    obtain ⟨y191, A191, hy191, ry191⟩ := xk_arr K.1 xD_163
                    have A192 := ((eh188.2.1 163 (by decide)).trans ((eh183.2.1 163 (by decide)).trans ((eh178.2.1 163 (by decide)).trans ((eh173.2.1 163 (by decide)).trans ((eh169.2.1 163 (by decide)).trans ((eh164.2.1 163 (by decide)).trans ((eh159.2.1 163 (by decide)).trans ((eh154.2.1 163 (by decide)).trans A191))))))))
                    obtain ⟨y193, s193, hy193, ry193⟩ := xj_set (v := a26) hy191 ry191 u19 (by first | omega | decide) (by first | omega | decide)
                    refine xi_iastore (pc' := 112) (x' := y193) kc_70_111 rfl A192 rfl (xi_in (by omega) (by rw [hy191]; omega)) s193 (fun hh193 eh193 => ?_)
                    have K194 := xk_pa K189 (xk_wa rfl) xD_163 hy193 ry193 eh193
                    refine xi_aload_n (pc' := 113) (x := 115) kc_70_112 rfl rfl ?_
                    have A195 := ((eh193.2.1 115 (by decide)).trans A190)
                    refine xi_getfield (pc' := 116) (v := .ref 164) kc_70_113 rfl rfl rfl A195 rfl ?_
                    refine xi_aload_n (pc' := 117) (x := 115) kc_70_116 rfl rfl ?_
                    refine xi_getfield (pc' := 120) (v := .int u19) kc_70_117 rfl rfl rfl A195 rfl ?_
                    refine xi_iload (pc' := 122) (x := a28) kc_70_120 rfl rfl ?_
                    obtain ⟨y196, A196, hy196, ry196⟩ := xk_arr K.1 xD_164
                    have A197 := ((eh193.2.1 164 (by decide)).trans ((eh188.2.1 164 (by decide)).trans ((eh183.2.1 164 (by decide)).trans ((eh178.2.1 164 (by decide)).trans ((eh173.2.1 164 (by decide)).trans ((eh169.2.1 164 (by decide)).trans ((eh164.2.1 164 (by decide)).trans ((eh159.2.1 164 (by decide)).trans ((eh154.2.1 164 (by decide)).trans A196)))))))))
                    obtain ⟨y198, s198, hy198, ry198⟩ := xj_set (v := a28) hy196 ry196 u19 (by first | omega | decide) (by first | omega | decide)
                    refine xi_iastore (pc' := 123) (x' := y198) kc_70_122 rfl A197 rfl (xi_in (by omega) (by rw [hy196]; omega)) s198 (fun hh198 eh198 => ?_)
                    have K199 := xk_pa K194 (xk_wa rfl) xD_164 hy198 ry198 eh198
                    refine xi_aload_n (pc' := 124) (x := 115) kc_70_123 rfl rfl ?_
                    refine xi_dup (pc' := 125) kc_70_124 rfl rfl ?_
                    have A200 := ((eh198.2.1 115 (by decide)).trans A195)
                    refine xi_getfield (pc' := 128) (v := .int u19) kc_70_125 rfl rfl rfl A200 rfl ?_
                    refine xi_iconst (pc' := 129) (v := 1) kc_70_128 rfl rfl ?_
                    refine xi_iadd (pc' := 130) (v := v172) kc_70_129 rfl ev172 ?_
                    refine xi_putfield (pc' := 133) (fs' := [.int 0, .int u2, .ref 116, .ref 117, .ref 118, .ref 119, .ref 120, .ref 121, .ref 122, .ref 123, .ref 124, .ref 125, .ref 126, .ref 127, .ref 128, .ref 129, .int u6, .ref 130, .int u7, .ref 131, .ref 132, .ref 133, .ref 134, .int u8, .ref 135, .ref 136, .ref 137, .ref 138, .ref 139, .ref 140, .ref 141, .ref 142, .int u9, .int u10, .int u11, .ref 143, .ref 144, .ref 145, .ref 146, .ref 147, .ref 148, .int u12, .ref 149, .ref 150, .ref 151, .int u13, .ref 152, .ref 153, .ref 154, .ref 155, .ref 156, .ref 157, .ref 158, .ref 159, .int u14, .ref 160, .int v172, .ref 161, .ref 162, .ref 163, .ref 164, .int u16, .ref 165, .ref 166]) kc_70_130 rfl rfl rfl A200 rfl rfl rfl (Nat.le_of_ble_eq_true rfl) rfl (fun hh202 eh201 => ?_)
                    have K203 := xk_pf (k := 56) (v := v172) K199 (xk_wf rfl) xD_115 A200 rfl (by first | omega | decide) (by first | omega | decide) eh201 rfl
                    refine xi_aload_n (pc' := 134) (x := 115) kc_70_133 rfl rfl ?_
                    refine xi_getfield (pc' := 137) (v := .int v172) kc_70_134 rfl rfl rfl eh201.1 rfl ?_
                    refine xi_iconst (pc' := 138) (v := 1) kc_70_137 rfl rfl ?_
                    refine xi_isub (pc' := 139) (v := v176) kc_70_138 rfl ev176 ?_
                    refine xi_ireturn kc_70_139 mr_70 rfl ?_
                    show xw J ov 100 195 (1287, [(4, .int x4), (3, .ref 167), (2, .ref 115), (1, .ref 0), (0, .ref 1000000)], [.int v176, .int v176], hh202) _
                    refine xi_cmt (pc' := 1501) kc_195_1287 rfl (xc_eq_t (X := u19.toInt) (Y := u19.toInt) zv176 zv176 (by omega)) ?_
                    obtain ⟨v204, ev204⟩ : ∃ q : Int32, x4 + 6 = q := ⟨_, rfl⟩
                    have zv204 : v204.toInt = (x4.toInt + 6) := by rw [← ev204]; exact (xz_add (X := x4.toInt) (Y := 6) rfl (by decide) (by omega) (by omega)).trans (by omega)
                    refine xi_iinc (pc' := 1504) (x := x4) (v := v204) (lv' := [(4, .int v204), (3, .ref 167), (2, .ref 115), (1, .ref 0), (0, .ref 1000000)]) kc_195_1501 rfl rfl ev204 rfl (xm_lt ml_195 rfl) ?_
                    refine xi_goto (pc' := 23) kc_195_1504 rfl ?_
                    have A205 := ((eh201.2.1 0 (by decide)).trans ((eh198.2.1 0 (by decide)).trans ((eh193.2.1 0 (by decide)).trans ((eh188.2.1 0 (by decide)).trans ((eh183.2.1 0 (by decide)).trans ((eh178.2.1 0 (by decide)).trans ((eh173.2.1 0 (by decide)).trans ((eh169.2.1 0 (by decide)).trans ((eh164.2.1 0 (by decide)).trans ((eh159.2.1 0 (by decide)).trans ((eh154.2.1 0 (by decide)).trans A3)))))))))))
                    have A206 := ((eh201.2.1 85 (by decide)).trans ((eh198.2.1 85 (by decide)).trans ((eh193.2.1 85 (by decide)).trans ((eh188.2.1 85 (by decide)).trans ((eh183.2.1 85 (by decide)).trans ((eh178.2.1 85 (by decide)).trans eh173.1))))))
                    exact kk v204 hh202 (by omega) K203 ⟨((xl_of A205 rfl).trans (xl_of eh201.1 rfl).symm), ((xl_of A206 rfl).trans (xl_of eh201.1 rfl).symm)⟩
                  · refine xi_cmf (pc' := 71) kc_177_68 rfl (xc_lt_f (X := u19.toInt) (Y := 12) rfl (by decide) (by omega)) ?_
                    refine xi_aload_n (pc' := 72) (x := 0) kc_177_71 rfl rfl ?_
                    refine xi_bipush (pc' := 74) (v := (-6)) kc_177_72 rfl rfl ?_
                    refine xi_virtual (mj := 90) (as := [.int (-6)]) (st1 := []) (lv0 := [(0, .ref 0), (1, .int (-6))]) kc_177_74 rfl rfl rfl rfl rfl A3 (Nat.le_of_ble_eq_true rfl) (hJ _ _ _ _ (by decide)) (xm_le ml_90 rfl) rfl ?_
                    refine xi_iload_n (pc' := 1) (x := (-6)) kc_90_0 rfl rfl ?_
                    refine xi_ineg (pc' := 2) (v := 6) kc_90_1 rfl rfl ?_
                    refine xi_istore_n (pc' := 3) (lv' := [(2, .int 6), (0, .ref 0), (1, .int (-6))]) kc_90_2 rfl rfl (xm_lt ml_90 rfl) ?_
                    refine xi_iload_n (pc' := 4) (x := 6) kc_90_3 rfl rfl ?_
                    refine xi_iff (pc' := 7) kc_90_4 rfl rfl ?_
                    refine xi_iload_n (pc' := 8) (x := 6) kc_90_7 rfl rfl ?_
                    refine xi_aload_n (pc' := 9) (x := 0) kc_90_8 rfl rfl ?_
                    refine xi_getfield (pc' := 12) (v := .ref 94) kc_90_9 rfl rfl rfl A3 rfl ?_
                    obtain ⟨y207, A207, hy207, ry207⟩ := xk_arr K.1 xD_94
                    refine xi_arraylength (pc' := 13) (n := 7) (v := 7) kc_90_12 rfl (xl_lenI (by decide) (by decide) A207 hy207) rfl ?_
                    refine xi_cmf (pc' := 16) kc_90_13 rfl rfl ?_
                    refine xi_aload_n (pc' := 17) (x := 0) kc_90_16 rfl rfl ?_
                    refine xi_getfield (pc' := 20) (v := .ref 94) kc_90_17 rfl rfl rfl A3 rfl ?_
                    refine xi_iload_n (pc' := 21) (x := 6) kc_90_20 rfl rfl ?_
                    refine xi_dup2 (pc' := 22) kc_90_21 rfl ⟨rfl, rfl⟩ ?_
                    obtain ⟨v208, ev208, bv208, dv208⟩ := xj_get hy207 ry207 (i := 6) (by decide) (by decide)
                    refine xi_iaload (pc' := 23) (v := v208) kc_90_22 rfl A207 (by decide) rfl (xi_in (by decide) (by rw [hy207]; decide)) ev208 ?_
                    refine xi_iconst (pc' := 24) (v := 1) kc_90_23 rfl rfl ?_
                    obtain ⟨v209, ev209⟩ : ∃ q : Int32, (v208 : Int32) + 1 = q := ⟨_, rfl⟩
                    have rv209 := xc_rng v209
                    refine xi_iadd (pc' := 25) (v := v209) kc_90_24 rfl ev209 ?_
                    obtain ⟨y210, s210, hy210, ry210⟩ := xj_set (v := v209) hy207 ry207 6 (by first | omega | decide) (by first | omega | decide)
                    refine xi_iastore (pc' := 26) (x' := y210) kc_90_25 rfl A207 rfl (xi_in (by decide) (by rw [hy207]; decide)) s210 (fun hh210 eh210 => ?_)
                    have K211 := xk_pa K (xk_wa rfl) xD_94 hy210 ry210 eh210
                    refine xi_iload_n (pc' := 27) (x := (-6)) kc_90_26 rfl rfl ?_
                    refine xi_ireturn kc_90_27 mr_90 rfl ?_
                    show xw J ov 99 177 (77, [(0, .ref 0), (1, .int a22), (2, .int a24), (3, .int a26), (4, .int a28)], [.int (-6)], hh210) _
                    refine xi_ireturn kc_177_77 mr_177 rfl ?_
                    show xw J ov 100 195 (1259, [(4, .int x4), (3, .ref 167), (2, .ref 115), (1, .ref 0), (0, .ref 1000000)], [.int (-6)], hh210) _
                    refine xi_aload_n (pc' := 1260) (x := 115) kc_195_1259 rfl rfl ?_
                    refine xi_aload_n (pc' := 1261) (x := 1000000) kc_195_1260 rfl rfl ?_
                    refine xi_iload (pc' := 1263) (x := x4) kc_195_1261 rfl rfl ?_
                    refine xi_iconst (pc' := 1264) (v := 1) kc_195_1263 rfl rfl ?_
                    refine xi_iadd (pc' := 1265) (v := v21) kc_195_1264 rfl ev21 ?_
                    refine xi_ialoadO (pc' := 1266) (v := a22) kc_195_1265 rfl (by decide) hov0 (xi_in (by omega) (by omega)) ea22 ?_
                    refine xi_aload_n (pc' := 1267) (x := 1000000) kc_195_1266 rfl rfl ?_
                    refine xi_iload (pc' := 1269) (x := x4) kc_195_1267 rfl rfl ?_
                    refine xi_iconst (pc' := 1270) (v := 2) kc_195_1269 rfl rfl ?_
                    refine xi_iadd (pc' := 1271) (v := v23) kc_195_1270 rfl ev23 ?_
                    refine xi_ialoadO (pc' := 1272) (v := a24) kc_195_1271 rfl (by decide) hov0 (xi_in (by omega) (by omega)) ea24 ?_
                    refine xi_aload_n (pc' := 1273) (x := 1000000) kc_195_1272 rfl rfl ?_
                    refine xi_iload (pc' := 1275) (x := x4) kc_195_1273 rfl rfl ?_
                    refine xi_iconst (pc' := 1276) (v := 3) kc_195_1275 rfl rfl ?_
                    refine xi_iadd (pc' := 1277) (v := v25) kc_195_1276 rfl ev25 ?_
                    refine xi_ialoadO (pc' := 1278) (v := a26) kc_195_1277 rfl (by decide) hov0 (xi_in (by omega) (by omega)) ea26 ?_
                    refine xi_aload_n (pc' := 1279) (x := 1000000) kc_195_1278 rfl rfl ?_
                    refine xi_iload (pc' := 1281) (x := x4) kc_195_1279 rfl rfl ?_
                    refine xi_iconst (pc' := 1282) (v := 4) kc_195_1281 rfl rfl ?_
                    refine xi_iadd (pc' := 1283) (v := v27) kc_195_1282 rfl ev27 ?_
                    refine xi_ialoadO (pc' := 1284) (v := a28) kc_195_1283 rfl (by decide) hov0 (xi_in (by omega) (by omega)) ea28 ?_
                    have A212 := ((eh210.2.1 115 (by decide)).trans A17)
                    refine xi_virtual (mj := 70) (as := [.int a22, .int a24, .int a26, .int a28]) (st1 := [.int (-6)]) (lv0 := [(0, .ref 115), (1, .int a22), (2, .int a24), (3, .int a26), (4, .int a28)]) kc_195_1284 rfl rfl rfl rfl rfl A212 (Nat.le_of_ble_eq_true rfl) (hJ _ _ _ _ (by decide)) (xm_le ml_70 rfl) rfl ?_
                    refine xi_aload_n (pc' := 1) (x := 115) kc_70_0 rfl rfl ?_
                    refine xi_iconst (pc' := 2) (v := 0) kc_70_1 rfl rfl ?_
                    refine xi_putfield (pc' := 5) (fs' := [.int 0, .int u2, .ref 116, .ref 117, .ref 118, .ref 119, .ref 120, .ref 121, .ref 122, .ref 123, .ref 124, .ref 125, .ref 126, .ref 127, .ref 128, .ref 129, .int u6, .ref 130, .int u7, .ref 131, .ref 132, .ref 133, .ref 134, .int u8, .ref 135, .ref 136, .ref 137, .ref 138, .ref 139, .ref 140, .ref 141, .ref 142, .int u9, .int u10, .int u11, .ref 143, .ref 144, .ref 145, .ref 146, .ref 147, .ref 148, .int u12, .ref 149, .ref 150, .ref 151, .int u13, .ref 152, .ref 153, .ref 154, .ref 155, .ref 156, .ref 157, .ref 158, .ref 159, .int u14, .ref 160, .int u19, .ref 161, .ref 162, .ref 163, .ref 164, .int u16, .ref 165, .ref 166]) kc_70_2 rfl rfl rfl A212 rfl rfl rfl (Nat.le_of_ble_eq_true rfl) rfl (fun hh214 eh213 => ?_)
                    have K215 := xk_pf (k := 0) (v := 0) K211 (xk_wf rfl) xD_115 A212 rfl (by first | omega | decide) (by first | omega | decide) eh213 rfl
                    refine xi_iload_n (pc' := 6) (x := a24) kc_70_5 rfl rfl ?_
                    refine xi_iconst (pc' := 7) (v := 0) kc_70_6 rfl rfl ?_
                    refine xi_iconst (pc' := 8) (v := 3) kc_70_7 rfl rfl ?_
                    refine xi_static (mj := 11) (as := [.int a24, .int 0, .int 3]) (st1 := []) (lv0 := [(0, .int a24), (1, .int 0), (2, .int 3)]) kc_70_8 rfl rfl (Nat.le_of_ble_eq_true rfl) rfl rfl (Nat.le_of_ble_eq_true rfl) (hJ _ _ _ _ (by decide)) (xm_le ml_11 rfl) rfl ?_
                    refine xi_iload_n (pc' := 1) (x := a24) kc_11_0 rfl rfl ?_
                    refine xi_iload_n (pc' := 2) (x := 0) kc_11_1 rfl rfl ?_
                    refine xi_cmf (pc' := 5) kc_11_2 rfl (xc_lt_f (X := a24.toInt) (Y := 0) rfl (by decide) (by omega)) ?_
                    refine xi_iload_n (pc' := 6) (x := a24) kc_11_5 rfl rfl ?_
                    refine xi_iload_n (pc' := 7) (x := 3) kc_11_6 rfl rfl ?_
                    refine xi_cmf (pc' := 10) kc_11_7 rfl (xc_gt_f (X := a24.toInt) (Y := 3) rfl (by decide) (by omega)) ?_
                    refine xi_iconst (pc' := 11) (v := 1) kc_11_10 rfl rfl ?_
                    refine xi_goto (pc' := 15) kc_11_11 rfl ?_
                    refine xi_ireturn kc_11_15 mr_11 rfl ?_
                    show xw J ov 99 70 (11, [(0, .ref 115), (1, .int a22), (2, .int a24), (3, .int a26), (4, .int a28)], [.int 1], hh214) _
                    refine xi_iff (pc' := 14) kc_70_11 rfl rfl ?_
                    refine xi_iload_n (pc' := 15) (x := a26) kc_70_14 rfl rfl ?_
                    refine xi_iconst (pc' := 16) (v := 0) kc_70_15 rfl rfl ?_
                    refine xi_iconst (pc' := 17) (v := 1) kc_70_16 rfl rfl ?_
                    refine xi_static (mj := 11) (as := [.int a26, .int 0, .int 1]) (st1 := []) (lv0 := [(0, .int a26), (1, .int 0), (2, .int 1)]) kc_70_17 rfl rfl (Nat.le_of_ble_eq_true rfl) rfl rfl (Nat.le_of_ble_eq_true rfl) (hJ _ _ _ _ (by decide)) (xm_le ml_11 rfl) rfl ?_
                    refine xi_iload_n (pc' := 1) (x := a26) kc_11_0 rfl rfl ?_
                    refine xi_iload_n (pc' := 2) (x := 0) kc_11_1 rfl rfl ?_
                    refine xi_cmf (pc' := 5) kc_11_2 rfl (xc_lt_f (X := a26.toInt) (Y := 0) rfl (by decide) (by omega)) ?_
                    refine xi_iload_n (pc' := 6) (x := a26) kc_11_5 rfl rfl ?_
                    refine xi_iload_n (pc' := 7) (x := 1) kc_11_6 rfl rfl ?_
                    refine xi_cmf (pc' := 10) kc_11_7 rfl (xc_gt_f (X := a26.toInt) (Y := 1) rfl (by decide) (by omega)) ?_
                    refine xi_iconst (pc' := 11) (v := 1) kc_11_10 rfl rfl ?_
                    refine xi_goto (pc' := 15) kc_11_11 rfl ?_
                    refine xi_ireturn kc_11_15 mr_11 rfl ?_
                    show xw J ov 99 70 (20, [(0, .ref 115), (1, .int a22), (2, .int a24), (3, .int a26), (4, .int a28)], [.int 1], hh214) _
                    refine xi_ift (pc' := 30) kc_70_20 rfl rfl ?_
                    refine xi_iload_n (pc' := 31) (x := a22) kc_70_30 rfl rfl ?_
                    refine xi_aload_n (pc' := 32) (x := 115) kc_70_31 rfl rfl ?_
                    refine xi_getfield (pc' := 35) (v := .int u2) kc_70_32 rfl rfl rfl eh213.1 rfl ?_
                    refine xi_bipush (pc' := 37) (v := 24) kc_70_35 rfl rfl ?_
                    refine xi_idiv (pc' := 38) (v := v90) kc_70_37 rfl ev90 (by decide) ?_
                    refine xi_cmf (pc' := 41) kc_70_38 rfl (xc_lt_f (X := a22.toInt) (Y := v90.toInt) rfl rfl (by omega)) ?_
                    refine xi_iload (pc' := 43) (x := a28) kc_70_41 rfl rfl ?_
                    refine xi_ift (pc' := 53) kc_70_43 rfl (xc_ge_t (X := a28.toInt) (Y := 0) rfl (by decide) (by omega)) ?_
                    refine xi_iload_n (pc' := 54) (x := a22) kc_70_53 rfl rfl ?_
                    refine xi_bipush (pc' := 56) (v := 25) kc_70_54 rfl rfl ?_
                    refine xi_cmf (pc' := 59) kc_70_56 rfl (xc_gt_f (X := a22.toInt) (Y := 25) rfl (by decide) (by omega)) ?_
                    refine xi_iload (pc' := 61) (x := a28) kc_70_59 rfl rfl ?_
                    refine xi_bipush (pc' := 63) (v := 99) kc_70_61 rfl rfl ?_
                    refine xi_cmf (pc' := 66) kc_70_63 rfl (xc_gt_f (X := a28.toInt) (Y := 99) rfl (by decide) (by omega)) ?_
                    refine xi_aload_n (pc' := 67) (x := 115) kc_70_66 rfl rfl ?_
                    refine xi_getfield (pc' := 70) (v := .int u19) kc_70_67 rfl rfl rfl eh213.1 rfl ?_
                    refine xi_bipush (pc' := 72) (v := 12) kc_70_70 rfl rfl ?_
                    refine xi_cmf (pc' := 75) kc_70_72 rfl (xc_ne_f (X := u19.toInt) (Y := 12) rfl (by decide) (by omega)) ?_
                    refine xi_aload_n (pc' := 76) (x := 115) kc_70_75 rfl rfl ?_
                    refine xi_bipush (pc' := 78) (v := (-6)) kc_70_76 rfl rfl ?_
                    refine xi_virtual (mj := 12) (as := [.int (-6)]) (st1 := []) (lv0 := [(0, .ref 115), (1, .int (-6))]) kc_70_78 rfl rfl rfl rfl rfl eh213.1 (Nat.le_of_ble_eq_true rfl) (hJ _ _ _ _ (by decide)) (xm_le ml_12 rfl) rfl ?_
                    refine xi_aload_n (pc' := 1) (x := 115) kc_12_0 rfl rfl ?_
                    refine xi_getfield (pc' := 4) (v := .ref 140) kc_12_1 rfl rfl rfl eh213.1 rfl ?_
                    refine xi_iload_n (pc' := 5) (x := (-6)) kc_12_4 rfl rfl ?_
                    refine xi_ineg (pc' := 6) (v := 6) kc_12_5 rfl rfl ?_
                    refine xi_dup2 (pc' := 7) kc_12_6 rfl ⟨rfl, rfl⟩ ?_
                    obtain ⟨y216, A216, hy216, ry216⟩ := xk_arr K.1 xD_140
                    obtain ⟨v217, ev217, bv217, dv217⟩ := xj_get hy216 ry216 (i := 6) (by decide) (by decide)
                    have A218 := ((eh213.2.1 140 (by decide)).trans ((eh210.2.1 140 (by decide)).trans A216))
                    refine xi_iaload (pc' := 8) (v := v217) kc_12_7 rfl A218 (by decide) rfl (xi_in (by decide) (by rw [hy216]; decide)) ev217 ?_
                    refine xi_iconst (pc' := 9) (v := 1) kc_12_8 rfl rfl ?_
                    obtain ⟨v219, ev219⟩ : ∃ q : Int32, (v217 : Int32) + 1 = q := ⟨_, rfl⟩
                    have rv219 := xc_rng v219
                    refine xi_iadd (pc' := 10) (v := v219) kc_12_9 rfl ev219 ?_
                    obtain ⟨y220, s220, hy220, ry220⟩ := xj_set (v := v219) hy216 ry216 6 (by first | omega | decide) (by first | omega | decide)
                    refine xi_iastore (pc' := 11) (x' := y220) kc_12_10 rfl A218 rfl (xi_in (by decide) (by rw [hy216]; decide)) s220 (fun hh220 eh220 => ?_)
                    have K221 := xk_pa K215 (xk_wa rfl) xD_140 hy220 ry220 eh220
                    refine xi_iload_n (pc' := 12) (x := (-6)) kc_12_11 rfl rfl ?_
                    refine xi_ireturn kc_12_12 mr_12 rfl ?_
                    show xw J ov 99 70 (81, [(0, .ref 115), (1, .int a22), (2, .int a24), (3, .int a26), (4, .int a28)], [.int (-6)], hh220) _
                    refine xi_ireturn kc_70_81 mr_70 rfl ?_
                    show xw J ov 100 195 (1287, [(4, .int x4), (3, .ref 167), (2, .ref 115), (1, .ref 0), (0, .ref 1000000)], [.int (-6), .int (-6)], hh220) _
                    refine xi_cmt (pc' := 1501) kc_195_1287 rfl rfl ?_
                    obtain ⟨v222, ev222⟩ : ∃ q : Int32, x4 + 6 = q := ⟨_, rfl⟩
                    have zv222 : v222.toInt = (x4.toInt + 6) := by rw [← ev222]; exact (xz_add (X := x4.toInt) (Y := 6) rfl (by decide) (by omega) (by omega)).trans (by omega)
                    refine xi_iinc (pc' := 1504) (x := x4) (v := v222) (lv' := [(4, .int v222), (3, .ref 167), (2, .ref 115), (1, .ref 0), (0, .ref 1000000)]) kc_195_1501 rfl rfl ev222 rfl (xm_lt ml_195 rfl) ?_
                    refine xi_goto (pc' := 23) kc_195_1504 rfl ?_
                    have A223 := ((eh220.2.1 0 (by decide)).trans ((eh213.2.1 0 (by decide)).trans ((eh210.2.1 0 (by decide)).trans A3)))
                    have A224 := ((eh220.2.1 115 (by decide)).trans eh213.1)
                    have A225 := ((eh220.2.1 85 (by decide)).trans ((eh213.2.1 85 (by decide)).trans ((eh210.2.1 85 (by decide)).trans A20)))
                    exact kk v222 hh220 (by omega) K221 ⟨((xl_of A223 rfl).trans (xl_of A224 rfl).symm), ((xl_of A225 rfl).trans (xl_of A224 rfl).symm)⟩
            · refine xi_iff (pc' := 39) kc_177_36 rfl (xc_ge_f (X := a28.toInt) (Y := 0) rfl (by decide) (by omega)) ?_
              refine xi_aload_n (pc' := 40) (x := 0) kc_177_39 rfl rfl ?_
              refine xi_bipush (pc' := 42) (v := (-4)) kc_177_40 rfl rfl ?_
              refine xi_virtual (mj := 90) (as := [.int (-4)]) (st1 := []) (lv0 := [(0, .ref 0), (1, .int (-4))]) kc_177_42 rfl rfl rfl rfl rfl A3 (Nat.le_of_ble_eq_true rfl) (hJ _ _ _ _ (by decide)) (xm_le ml_90 rfl) rfl ?_
              refine xi_iload_n (pc' := 1) (x := (-4)) kc_90_0 rfl rfl ?_
              refine xi_ineg (pc' := 2) (v := 4) kc_90_1 rfl rfl ?_
              refine xi_istore_n (pc' := 3) (lv' := [(2, .int 4), (0, .ref 0), (1, .int (-4))]) kc_90_2 rfl rfl (xm_lt ml_90 rfl) ?_
              refine xi_iload_n (pc' := 4) (x := 4) kc_90_3 rfl rfl ?_
              refine xi_iff (pc' := 7) kc_90_4 rfl rfl ?_
              refine xi_iload_n (pc' := 8) (x := 4) kc_90_7 rfl rfl ?_
              refine xi_aload_n (pc' := 9) (x := 0) kc_90_8 rfl rfl ?_
              refine xi_getfield (pc' := 12) (v := .ref 94) kc_90_9 rfl rfl rfl A3 rfl ?_
              obtain ⟨y226, A226, hy226, ry226⟩ := xk_arr K.1 xD_94
              refine xi_arraylength (pc' := 13) (n := 7) (v := 7) kc_90_12 rfl (xl_lenI (by decide) (by decide) A226 hy226) rfl ?_
              refine xi_cmf (pc' := 16) kc_90_13 rfl rfl ?_
              refine xi_aload_n (pc' := 17) (x := 0) kc_90_16 rfl rfl ?_
              refine xi_getfield (pc' := 20) (v := .ref 94) kc_90_17 rfl rfl rfl A3 rfl ?_
              refine xi_iload_n (pc' := 21) (x := 4) kc_90_20 rfl rfl ?_
              refine xi_dup2 (pc' := 22) kc_90_21 rfl ⟨rfl, rfl⟩ ?_
              obtain ⟨v227, ev227, bv227, dv227⟩ := xj_get hy226 ry226 (i := 4) (by decide) (by decide)
              refine xi_iaload (pc' := 23) (v := v227) kc_90_22 rfl A226 (by decide) rfl (xi_in (by decide) (by rw [hy226]; decide)) ev227 ?_
              refine xi_iconst (pc' := 24) (v := 1) kc_90_23 rfl rfl ?_
              obtain ⟨v228, ev228⟩ : ∃ q : Int32, (v227 : Int32) + 1 = q := ⟨_, rfl⟩
              have rv228 := xc_rng v228
              refine xi_iadd (pc' := 25) (v := v228) kc_90_24 rfl ev228 ?_
              obtain ⟨y229, s229, hy229, ry229⟩ := xj_set (v := v228) hy226 ry226 4 (by first | omega | decide) (by first | omega | decide)
              refine xi_iastore (pc' := 26) (x' := y229) kc_90_25 rfl A226 rfl (xi_in (by decide) (by rw [hy226]; decide)) s229 (fun hh229 eh229 => ?_)
              have K230 := xk_pa K (xk_wa rfl) xD_94 hy229 ry229 eh229
              refine xi_iload_n (pc' := 27) (x := (-4)) kc_90_26 rfl rfl ?_
              refine xi_ireturn kc_90_27 mr_90 rfl ?_
              show xw J ov 99 177 (45, [(0, .ref 0), (1, .int a22), (2, .int a24), (3, .int a26), (4, .int a28)], [.int (-4)], hh229) _
              refine xi_ireturn kc_177_45 mr_177 rfl ?_
              show xw J ov 100 195 (1259, [(4, .int x4), (3, .ref 167), (2, .ref 115), (1, .ref 0), (0, .ref 1000000)], [.int (-4)], hh229) _
              refine xi_aload_n (pc' := 1260) (x := 115) kc_195_1259 rfl rfl ?_
              refine xi_aload_n (pc' := 1261) (x := 1000000) kc_195_1260 rfl rfl ?_
              refine xi_iload (pc' := 1263) (x := x4) kc_195_1261 rfl rfl ?_
              refine xi_iconst (pc' := 1264) (v := 1) kc_195_1263 rfl rfl ?_
              refine xi_iadd (pc' := 1265) (v := v21) kc_195_1264 rfl ev21 ?_
              refine xi_ialoadO (pc' := 1266) (v := a22) kc_195_1265 rfl (by decide) hov0 (xi_in (by omega) (by omega)) ea22 ?_
              refine xi_aload_n (pc' := 1267) (x := 1000000) kc_195_1266 rfl rfl ?_
              refine xi_iload (pc' := 1269) (x := x4) kc_195_1267 rfl rfl ?_
              refine xi_iconst (pc' := 1270) (v := 2) kc_195_1269 rfl rfl ?_
              refine xi_iadd (pc' := 1271) (v := v23) kc_195_1270 rfl ev23 ?_
              refine xi_ialoadO (pc' := 1272) (v := a24) kc_195_1271 rfl (by decide) hov0 (xi_in (by omega) (by omega)) ea24 ?_
              refine xi_aload_n (pc' := 1273) (x := 1000000) kc_195_1272 rfl rfl ?_
              refine xi_iload (pc' := 1275) (x := x4) kc_195_1273 rfl rfl ?_
              refine xi_iconst (pc' := 1276) (v := 3) kc_195_1275 rfl rfl ?_
              refine xi_iadd (pc' := 1277) (v := v25) kc_195_1276 rfl ev25 ?_
              refine xi_ialoadO (pc' := 1278) (v := a26) kc_195_1277 rfl (by decide) hov0 (xi_in (by omega) (by omega)) ea26 ?_
              refine xi_aload_n (pc' := 1279) (x := 1000000) kc_195_1278 rfl rfl ?_
              refine xi_iload (pc' := 1281) (x := x4) kc_195_1279 rfl rfl ?_
              refine xi_iconst (pc' := 1282) (v := 4) kc_195_1281 rfl rfl ?_
              refine xi_iadd (pc' := 1283) (v := v27) kc_195_1282 rfl ev27 ?_
              refine xi_ialoadO (pc' := 1284) (v := a28) kc_195_1283 rfl (by decide) hov0 (xi_in (by omega) (by omega)) ea28 ?_
              have A231 := ((eh229.2.1 115 (by decide)).trans A17)
              refine xi_virtual (mj := 70) (as := [.int a22, .int a24, .int a26, .int a28]) (st1 := [.int (-4)]) (lv0 := [(0, .ref 115), (1, .int a22), (2, .int a24), (3, .int a26), (4, .int a28)]) kc_195_1284 rfl rfl rfl rfl rfl A231 (Nat.le_of_ble_eq_true rfl) (hJ _ _ _ _ (by decide)) (xm_le ml_70 rfl) rfl ?_
              refine xi_aload_n (pc' := 1) (x := 115) kc_70_0 rfl rfl ?_
              refine xi_iconst (pc' := 2) (v := 0) kc_70_1 rfl rfl ?_
              refine xi_putfield (pc' := 5) (fs' := [.int 0, .int u2, .ref 116, .ref 117, .ref 118, .ref 119, .ref 120, .ref 121, .ref 122, .ref 123, .ref 124, .ref 125, .ref 126, .ref 127, .ref 128, .ref 129, .int u6, .ref 130, .int u7, .ref 131, .ref 132, .ref 133, .ref 134, .int u8, .ref 135, .ref 136, .ref 137, .ref 138, .ref 139, .ref 140, .ref 141, .ref 142, .int u9, .int u10, .int u11, .ref 143, .ref 144, .ref 145, .ref 146, .ref 147, .ref 148, .int u12, .ref 149, .ref 150, .ref 151, .int u13, .ref 152, .ref 153, .ref 154, .ref 155, .ref 156, .ref 157, .ref 158, .ref 159, .int u14, .ref 160, .int u19, .ref 161, .ref 162, .ref 163, .ref 164, .int u16, .ref 165, .ref 166]) kc_70_2 rfl rfl rfl A231 rfl rfl rfl (Nat.le_of_ble_eq_true rfl) rfl (fun hh233 eh232 => ?_)
              have K234 := xk_pf (k := 0) (v := 0) K230 (xk_wf rfl) xD_115 A231 rfl (by first | omega | decide) (by first | omega | decide) eh232 rfl
              refine xi_iload_n (pc' := 6) (x := a24) kc_70_5 rfl rfl ?_
              refine xi_iconst (pc' := 7) (v := 0) kc_70_6 rfl rfl ?_
              refine xi_iconst (pc' := 8) (v := 3) kc_70_7 rfl rfl ?_
              refine xi_static (mj := 11) (as := [.int a24, .int 0, .int 3]) (st1 := []) (lv0 := [(0, .int a24), (1, .int 0), (2, .int 3)]) kc_70_8 rfl rfl (Nat.le_of_ble_eq_true rfl) rfl rfl (Nat.le_of_ble_eq_true rfl) (hJ _ _ _ _ (by decide)) (xm_le ml_11 rfl) rfl ?_
              refine xi_iload_n (pc' := 1) (x := a24) kc_11_0 rfl rfl ?_
              refine xi_iload_n (pc' := 2) (x := 0) kc_11_1 rfl rfl ?_
              refine xi_cmf (pc' := 5) kc_11_2 rfl (xc_lt_f (X := a24.toInt) (Y := 0) rfl (by decide) (by omega)) ?_
              refine xi_iload_n (pc' := 6) (x := a24) kc_11_5 rfl rfl ?_
              refine xi_iload_n (pc' := 7) (x := 3) kc_11_6 rfl rfl ?_
              refine xi_cmf (pc' := 10) kc_11_7 rfl (xc_gt_f (X := a24.toInt) (Y := 3) rfl (by decide) (by omega)) ?_
              refine xi_iconst (pc' := 11) (v := 1) kc_11_10 rfl rfl ?_
              refine xi_goto (pc' := 15) kc_11_11 rfl ?_
              refine xi_ireturn kc_11_15 mr_11 rfl ?_
              show xw J ov 99 70 (11, [(0, .ref 115), (1, .int a22), (2, .int a24), (3, .int a26), (4, .int a28)], [.int 1], hh233) _
              refine xi_iff (pc' := 14) kc_70_11 rfl rfl ?_
              refine xi_iload_n (pc' := 15) (x := a26) kc_70_14 rfl rfl ?_
              refine xi_iconst (pc' := 16) (v := 0) kc_70_15 rfl rfl ?_
              refine xi_iconst (pc' := 17) (v := 1) kc_70_16 rfl rfl ?_
              refine xi_static (mj := 11) (as := [.int a26, .int 0, .int 1]) (st1 := []) (lv0 := [(0, .int a26), (1, .int 0), (2, .int 1)]) kc_70_17 rfl rfl (Nat.le_of_ble_eq_true rfl) rfl rfl (Nat.le_of_ble_eq_true rfl) (hJ _ _ _ _ (by decide)) (xm_le ml_11 rfl) rfl ?_
              refine xi_iload_n (pc' := 1) (x := a26) kc_11_0 rfl rfl ?_
              refine xi_iload_n (pc' := 2) (x := 0) kc_11_1 rfl rfl ?_
              refine xi_cmf (pc' := 5) kc_11_2 rfl (xc_lt_f (X := a26.toInt) (Y := 0) rfl (by decide) (by omega)) ?_
              refine xi_iload_n (pc' := 6) (x := a26) kc_11_5 rfl rfl ?_
              refine xi_iload_n (pc' := 7) (x := 1) kc_11_6 rfl rfl ?_
              refine xi_cmf (pc' := 10) kc_11_7 rfl (xc_gt_f (X := a26.toInt) (Y := 1) rfl (by decide) (by omega)) ?_
              refine xi_iconst (pc' := 11) (v := 1) kc_11_10 rfl rfl ?_
              refine xi_goto (pc' := 15) kc_11_11 rfl ?_
              refine xi_ireturn kc_11_15 mr_11 rfl ?_
              show xw J ov 99 70 (20, [(0, .ref 115), (1, .int a22), (2, .int a24), (3, .int a26), (4, .int a28)], [.int 1], hh233) _
              refine xi_ift (pc' := 30) kc_70_20 rfl rfl ?_
              refine xi_iload_n (pc' := 31) (x := a22) kc_70_30 rfl rfl ?_
              refine xi_aload_n (pc' := 32) (x := 115) kc_70_31 rfl rfl ?_
              refine xi_getfield (pc' := 35) (v := .int u2) kc_70_32 rfl rfl rfl eh232.1 rfl ?_
              refine xi_bipush (pc' := 37) (v := 24) kc_70_35 rfl rfl ?_
              refine xi_idiv (pc' := 38) (v := v90) kc_70_37 rfl ev90 (by decide) ?_
              refine xi_cmf (pc' := 41) kc_70_38 rfl (xc_lt_f (X := a22.toInt) (Y := v90.toInt) rfl rfl (by omega)) ?_
              refine xi_iload (pc' := 43) (x := a28) kc_70_41 rfl rfl ?_
              refine xi_iff (pc' := 46) kc_70_43 rfl (xc_ge_f (X := a28.toInt) (Y := 0) rfl (by decide) (by omega)) ?_
              refine xi_aload_n (pc' := 47) (x := 115) kc_70_46 rfl rfl ?_
              refine xi_bipush (pc' := 49) (v := (-4)) kc_70_47 rfl rfl ?_
              refine xi_virtual (mj := 12) (as := [.int (-4)]) (st1 := []) (lv0 := [(0, .ref 115), (1, .int (-4))]) kc_70_49 rfl rfl rfl rfl rfl eh232.1 (Nat.le_of_ble_eq_true rfl) (hJ _ _ _ _ (by decide)) (xm_le ml_12 rfl) rfl ?_
              refine xi_aload_n (pc' := 1) (x := 115) kc_12_0 rfl rfl ?_
              refine xi_getfield (pc' := 4) (v := .ref 140) kc_12_1 rfl rfl rfl eh232.1 rfl ?_
              refine xi_iload_n (pc' := 5) (x := (-4)) kc_12_4 rfl rfl ?_
              refine xi_ineg (pc' := 6) (v := 4) kc_12_5 rfl rfl ?_
              refine xi_dup2 (pc' := 7) kc_12_6 rfl ⟨rfl, rfl⟩ ?_
              obtain ⟨y235, A235, hy235, ry235⟩ := xk_arr K.1 xD_140
              obtain ⟨v236, ev236, bv236, dv236⟩ := xj_get hy235 ry235 (i := 4) (by decide) (by decide)
              have A237 := ((eh232.2.1 140 (by decide)).trans ((eh229.2.1 140 (by decide)).trans A235))
              refine xi_iaload (pc' := 8) (v := v236) kc_12_7 rfl A237 (by decide) rfl (xi_in (by decide) (by rw [hy235]; decide)) ev236 ?_
              refine xi_iconst (pc' := 9) (v := 1) kc_12_8 rfl rfl ?_
              obtain ⟨v238, ev238⟩ : ∃ q : Int32, (v236 : Int32) + 1 = q := ⟨_, rfl⟩
              have rv238 := xc_rng v238
              refine xi_iadd (pc' := 10) (v := v238) kc_12_9 rfl ev238 ?_
              obtain ⟨y239, s239, hy239, ry239⟩ := xj_set (v := v238) hy235 ry235 4 (by first | omega | decide) (by first | omega | decide)
              refine xi_iastore (pc' := 11) (x' := y239) kc_12_10 rfl A237 rfl (xi_in (by decide) (by rw [hy235]; decide)) s239 (fun hh239 eh239 => ?_)
              have K240 := xk_pa K234 (xk_wa rfl) xD_140 hy239 ry239 eh239
              refine xi_iload_n (pc' := 12) (x := (-4)) kc_12_11 rfl rfl ?_
              refine xi_ireturn kc_12_12 mr_12 rfl ?_
              show xw J ov 99 70 (52, [(0, .ref 115), (1, .int a22), (2, .int a24), (3, .int a26), (4, .int a28)], [.int (-4)], hh239) _
              refine xi_ireturn kc_70_52 mr_70 rfl ?_
              show xw J ov 100 195 (1287, [(4, .int x4), (3, .ref 167), (2, .ref 115), (1, .ref 0), (0, .ref 1000000)], [.int (-4), .int (-4)], hh239) _
              refine xi_cmt (pc' := 1501) kc_195_1287 rfl rfl ?_
              obtain ⟨v241, ev241⟩ : ∃ q : Int32, x4 + 6 = q := ⟨_, rfl⟩
              have zv241 : v241.toInt = (x4.toInt + 6) := by rw [← ev241]; exact (xz_add (X := x4.toInt) (Y := 6) rfl (by decide) (by omega) (by omega)).trans (by omega)
              refine xi_iinc (pc' := 1504) (x := x4) (v := v241) (lv' := [(4, .int v241), (3, .ref 167), (2, .ref 115), (1, .ref 0), (0, .ref 1000000)]) kc_195_1501 rfl rfl ev241 rfl (xm_lt ml_195 rfl) ?_
              refine xi_goto (pc' := 23) kc_195_1504 rfl ?_
              have A242 := ((eh239.2.1 0 (by decide)).trans ((eh232.2.1 0 (by decide)).trans ((eh229.2.1 0 (by decide)).trans A3)))
              have A243 := ((eh239.2.1 115 (by decide)).trans eh232.1)
              have A244 := ((eh239.2.1 85 (by decide)).trans ((eh232.2.1 85 (by decide)).trans ((eh229.2.1 85 (by decide)).trans A20)))
              exact kk v241 hh239 (by omega) K240 ⟨((xl_of A242 rfl).trans (xl_of A243 rfl).symm), ((xl_of A244 rfl).trans (xl_of A243 rfl).symm)⟩
        · refine xi_cmf (pc' := 16) kc_177_13 rfl (xc_le_f (X := a26.toInt) (Y := 1) rfl (by decide) (by omega)) ?_
          refine xi_aload_n (pc' := 17) (x := 0) kc_177_16 rfl rfl ?_
          refine xi_bipush (pc' := 19) (v := (-2)) kc_177_17 rfl rfl ?_
          refine xi_virtual (mj := 90) (as := [.int (-2)]) (st1 := []) (lv0 := [(0, .ref 0), (1, .int (-2))]) kc_177_19 rfl rfl rfl rfl rfl A3 (Nat.le_of_ble_eq_true rfl) (hJ _ _ _ _ (by decide)) (xm_le ml_90 rfl) rfl ?_
          refine xi_iload_n (pc' := 1) (x := (-2)) kc_90_0 rfl rfl ?_
          refine xi_ineg (pc' := 2) (v := 2) kc_90_1 rfl rfl ?_
          refine xi_istore_n (pc' := 3) (lv' := [(2, .int 2), (0, .ref 0), (1, .int (-2))]) kc_90_2 rfl rfl (xm_lt ml_90 rfl) ?_
          refine xi_iload_n (pc' := 4) (x := 2) kc_90_3 rfl rfl ?_
          refine xi_iff (pc' := 7) kc_90_4 rfl rfl ?_
          refine xi_iload_n (pc' := 8) (x := 2) kc_90_7 rfl rfl ?_
          refine xi_aload_n (pc' := 9) (x := 0) kc_90_8 rfl rfl ?_
          refine xi_getfield (pc' := 12) (v := .ref 94) kc_90_9 rfl rfl rfl A3 rfl ?_
          obtain ⟨y245, A245, hy245, ry245⟩ := xk_arr K.1 xD_94
          refine xi_arraylength (pc' := 13) (n := 7) (v := 7) kc_90_12 rfl (xl_lenI (by decide) (by decide) A245 hy245) rfl ?_
          refine xi_cmf (pc' := 16) kc_90_13 rfl rfl ?_
          refine xi_aload_n (pc' := 17) (x := 0) kc_90_16 rfl rfl ?_
          refine xi_getfield (pc' := 20) (v := .ref 94) kc_90_17 rfl rfl rfl A3 rfl ?_
          refine xi_iload_n (pc' := 21) (x := 2) kc_90_20 rfl rfl ?_
          refine xi_dup2 (pc' := 22) kc_90_21 rfl ⟨rfl, rfl⟩ ?_
          obtain ⟨v246, ev246, bv246, dv246⟩ := xj_get hy245 ry245 (i := 2) (by decide) (by decide)
          refine xi_iaload (pc' := 23) (v := v246) kc_90_22 rfl A245 (by decide) rfl (xi_in (by decide) (by rw [hy245]; decide)) ev246 ?_
          refine xi_iconst (pc' := 24) (v := 1) kc_90_23 rfl rfl ?_
          obtain ⟨v247, ev247⟩ : ∃ q : Int32, (v246 : Int32) + 1 = q := ⟨_, rfl⟩
          have rv247 := xc_rng v247
          refine xi_iadd (pc' := 25) (v := v247) kc_90_24 rfl ev247 ?_
          obtain ⟨y248, s248, hy248, ry248⟩ := xj_set (v := v247) hy245 ry245 2 (by first | omega | decide) (by first | omega | decide)
          refine xi_iastore (pc' := 26) (x' := y248) kc_90_25 rfl A245 rfl (xi_in (by decide) (by rw [hy245]; decide)) s248 (fun hh248 eh248 => ?_)
          have K249 := xk_pa K (xk_wa rfl) xD_94 hy248 ry248 eh248
          refine xi_iload_n (pc' := 27) (x := (-2)) kc_90_26 rfl rfl ?_
          refine xi_ireturn kc_90_27 mr_90 rfl ?_
          show xw J ov 99 177 (22, [(0, .ref 0), (1, .int a22), (2, .int a24), (3, .int a26), (4, .int a28)], [.int (-2)], hh248) _
          refine xi_ireturn kc_177_22 mr_177 rfl ?_
          show xw J ov 100 195 (1259, [(4, .int x4), (3, .ref 167), (2, .ref 115), (1, .ref 0), (0, .ref 1000000)], [.int (-2)], hh248) _
          refine xi_aload_n (pc' := 1260) (x := 115) kc_195_1259 rfl rfl ?_
          refine xi_aload_n (pc' := 1261) (x := 1000000) kc_195_1260 rfl rfl ?_
          refine xi_iload (pc' := 1263) (x := x4) kc_195_1261 rfl rfl ?_
          refine xi_iconst (pc' := 1264) (v := 1) kc_195_1263 rfl rfl ?_
          refine xi_iadd (pc' := 1265) (v := v21) kc_195_1264 rfl ev21 ?_
          refine xi_ialoadO (pc' := 1266) (v := a22) kc_195_1265 rfl (by decide) hov0 (xi_in (by omega) (by omega)) ea22 ?_
          refine xi_aload_n (pc' := 1267) (x := 1000000) kc_195_1266 rfl rfl ?_
          refine xi_iload (pc' := 1269) (x := x4) kc_195_1267 rfl rfl ?_
          refine xi_iconst (pc' := 1270) (v := 2) kc_195_1269 rfl rfl ?_
          refine xi_iadd (pc' := 1271) (v := v23) kc_195_1270 rfl ev23 ?_
          refine xi_ialoadO (pc' := 1272) (v := a24) kc_195_1271 rfl (by decide) hov0 (xi_in (by omega) (by omega)) ea24 ?_
          refine xi_aload_n (pc' := 1273) (x := 1000000) kc_195_1272 rfl rfl ?_
          refine xi_iload (pc' := 1275) (x := x4) kc_195_1273 rfl rfl ?_
          refine xi_iconst (pc' := 1276) (v := 3) kc_195_1275 rfl rfl ?_
          refine xi_iadd (pc' := 1277) (v := v25) kc_195_1276 rfl ev25 ?_
          refine xi_ialoadO (pc' := 1278) (v := a26) kc_195_1277 rfl (by decide) hov0 (xi_in (by omega) (by omega)) ea26 ?_
          refine xi_aload_n (pc' := 1279) (x := 1000000) kc_195_1278 rfl rfl ?_
          refine xi_iload (pc' := 1281) (x := x4) kc_195_1279 rfl rfl ?_
          refine xi_iconst (pc' := 1282) (v := 4) kc_195_1281 rfl rfl ?_
          refine xi_iadd (pc' := 1283) (v := v27) kc_195_1282 rfl ev27 ?_
          refine xi_ialoadO (pc' := 1284) (v := a28) kc_195_1283 rfl (by decide) hov0 (xi_in (by omega) (by omega)) ea28 ?_
          have A250 := ((eh248.2.1 115 (by decide)).trans A17)
          refine xi_virtual (mj := 70) (as := [.int a22, .int a24, .int a26, .int a28]) (st1 := [.int (-2)]) (lv0 := [(0, .ref 115), (1, .int a22), (2, .int a24), (3, .int a26), (4, .int a28)]) kc_195_1284 rfl rfl rfl rfl rfl A250 (Nat.le_of_ble_eq_true rfl) (hJ _ _ _ _ (by decide)) (xm_le ml_70 rfl) rfl ?_
          refine xi_aload_n (pc' := 1) (x := 115) kc_70_0 rfl rfl ?_
          refine xi_iconst (pc' := 2) (v := 0) kc_70_1 rfl rfl ?_
          refine xi_putfield (pc' := 5) (fs' := [.int 0, .int u2, .ref 116, .ref 117, .ref 118, .ref 119, .ref 120, .ref 121, .ref 122, .ref 123, .ref 124, .ref 125, .ref 126, .ref 127, .ref 128, .ref 129, .int u6, .ref 130, .int u7, .ref 131, .ref 132, .ref 133, .ref 134, .int u8, .ref 135, .ref 136, .ref 137, .ref 138, .ref 139, .ref 140, .ref 141, .ref 142, .int u9, .int u10, .int u11, .ref 143, .ref 144, .ref 145, .ref 146, .ref 147, .ref 148, .int u12, .ref 149, .ref 150, .ref 151, .int u13, .ref 152, .ref 153, .ref 154, .ref 155, .ref 156, .ref 157, .ref 158, .ref 159, .int u14, .ref 160, .int u19, .ref 161, .ref 162, .ref 163, .ref 164, .int u16, .ref 165, .ref 166]) kc_70_2 rfl rfl rfl A250 rfl rfl rfl (Nat.le_of_ble_eq_true rfl) rfl (fun hh252 eh251 => ?_)
          have K253 := xk_pf (k := 0) (v := 0) K249 (xk_wf rfl) xD_115 A250 rfl (by first | omega | decide) (by first | omega | decide) eh251 rfl
          refine xi_iload_n (pc' := 6) (x := a24) kc_70_5 rfl rfl ?_
          refine xi_iconst (pc' := 7) (v := 0) kc_70_6 rfl rfl ?_
          refine xi_iconst (pc' := 8) (v := 3) kc_70_7 rfl rfl ?_
          refine xi_static (mj := 11) (as := [.int a24, .int 0, .int 3]) (st1 := []) (lv0 := [(0, .int a24), (1, .int 0), (2, .int 3)]) kc_70_8 rfl rfl (Nat.le_of_ble_eq_true rfl) rfl rfl (Nat.le_of_ble_eq_true rfl) (hJ _ _ _ _ (by decide)) (xm_le ml_11 rfl) rfl ?_
          refine xi_iload_n (pc' := 1) (x := a24) kc_11_0 rfl rfl ?_
          refine xi_iload_n (pc' := 2) (x := 0) kc_11_1 rfl rfl ?_
          refine xi_cmf (pc' := 5) kc_11_2 rfl (xc_lt_f (X := a24.toInt) (Y := 0) rfl (by decide) (by omega)) ?_
          refine xi_iload_n (pc' := 6) (x := a24) kc_11_5 rfl rfl ?_
          refine xi_iload_n (pc' := 7) (x := 3) kc_11_6 rfl rfl ?_
          refine xi_cmf (pc' := 10) kc_11_7 rfl (xc_gt_f (X := a24.toInt) (Y := 3) rfl (by decide) (by omega)) ?_
          refine xi_iconst (pc' := 11) (v := 1) kc_11_10 rfl rfl ?_
          refine xi_goto (pc' := 15) kc_11_11 rfl ?_
          refine xi_ireturn kc_11_15 mr_11 rfl ?_
          show xw J ov 99 70 (11, [(0, .ref 115), (1, .int a22), (2, .int a24), (3, .int a26), (4, .int a28)], [.int 1], hh252) _
          refine xi_iff (pc' := 14) kc_70_11 rfl rfl ?_
          refine xi_iload_n (pc' := 15) (x := a26) kc_70_14 rfl rfl ?_
          refine xi_iconst (pc' := 16) (v := 0) kc_70_15 rfl rfl ?_
          refine xi_iconst (pc' := 17) (v := 1) kc_70_16 rfl rfl ?_
          refine xi_static (mj := 11) (as := [.int a26, .int 0, .int 1]) (st1 := []) (lv0 := [(0, .int a26), (1, .int 0), (2, .int 1)]) kc_70_17 rfl rfl (Nat.le_of_ble_eq_true rfl) rfl rfl (Nat.le_of_ble_eq_true rfl) (hJ _ _ _ _ (by decide)) (xm_le ml_11 rfl) rfl ?_
          refine xi_iload_n (pc' := 1) (x := a26) kc_11_0 rfl rfl ?_
          refine xi_iload_n (pc' := 2) (x := 0) kc_11_1 rfl rfl ?_
          refine xi_cmf (pc' := 5) kc_11_2 rfl (xc_lt_f (X := a26.toInt) (Y := 0) rfl (by decide) (by omega)) ?_
          refine xi_iload_n (pc' := 6) (x := a26) kc_11_5 rfl rfl ?_
          refine xi_iload_n (pc' := 7) (x := 1) kc_11_6 rfl rfl ?_
          refine xi_cmt (pc' := 14) kc_11_7 rfl (xc_gt_t (X := a26.toInt) (Y := 1) rfl (by decide) (by omega)) ?_
          refine xi_iconst (pc' := 15) (v := 0) kc_11_14 rfl rfl ?_
          refine xi_ireturn kc_11_15 mr_11 rfl ?_
          show xw J ov 99 70 (20, [(0, .ref 115), (1, .int a22), (2, .int a24), (3, .int a26), (4, .int a28)], [.int 0], hh252) _
          refine xi_iff (pc' := 23) kc_70_20 rfl rfl ?_
          refine xi_aload_n (pc' := 24) (x := 115) kc_70_23 rfl rfl ?_
          refine xi_bipush (pc' := 26) (v := (-2)) kc_70_24 rfl rfl ?_
          refine xi_virtual (mj := 12) (as := [.int (-2)]) (st1 := []) (lv0 := [(0, .ref 115), (1, .int (-2))]) kc_70_26 rfl rfl rfl rfl rfl eh251.1 (Nat.le_of_ble_eq_true rfl) (hJ _ _ _ _ (by decide)) (xm_le ml_12 rfl) rfl ?_
          refine xi_aload_n (pc' := 1) (x := 115) kc_12_0 rfl rfl ?_
          refine xi_getfield (pc' := 4) (v := .ref 140) kc_12_1 rfl rfl rfl eh251.1 rfl ?_
          refine xi_iload_n (pc' := 5) (x := (-2)) kc_12_4 rfl rfl ?_
          refine xi_ineg (pc' := 6) (v := 2) kc_12_5 rfl rfl ?_
          refine xi_dup2 (pc' := 7) kc_12_6 rfl ⟨rfl, rfl⟩ ?_
          obtain ⟨y254, A254, hy254, ry254⟩ := xk_arr K.1 xD_140
          obtain ⟨v255, ev255, bv255, dv255⟩ := xj_get hy254 ry254 (i := 2) (by decide) (by decide)
          have A256 := ((eh251.2.1 140 (by decide)).trans ((eh248.2.1 140 (by decide)).trans A254))
          refine xi_iaload (pc' := 8) (v := v255) kc_12_7 rfl A256 (by decide) rfl (xi_in (by decide) (by rw [hy254]; decide)) ev255 ?_
          refine xi_iconst (pc' := 9) (v := 1) kc_12_8 rfl rfl ?_
          obtain ⟨v257, ev257⟩ : ∃ q : Int32, (v255 : Int32) + 1 = q := ⟨_, rfl⟩
          have rv257 := xc_rng v257
          refine xi_iadd (pc' := 10) (v := v257) kc_12_9 rfl ev257 ?_
          obtain ⟨y258, s258, hy258, ry258⟩ := xj_set (v := v257) hy254 ry254 2 (by first | omega | decide) (by first | omega | decide)
          refine xi_iastore (pc' := 11) (x' := y258) kc_12_10 rfl A256 rfl (xi_in (by decide) (by rw [hy254]; decide)) s258 (fun hh258 eh258 => ?_)
          have K259 := xk_pa K253 (xk_wa rfl) xD_140 hy258 ry258 eh258
          refine xi_iload_n (pc' := 12) (x := (-2)) kc_12_11 rfl rfl ?_
          refine xi_ireturn kc_12_12 mr_12 rfl ?_
          show xw J ov 99 70 (29, [(0, .ref 115), (1, .int a22), (2, .int a24), (3, .int a26), (4, .int a28)], [.int (-2)], hh258) _
          refine xi_ireturn kc_70_29 mr_70 rfl ?_
          show xw J ov 100 195 (1287, [(4, .int x4), (3, .ref 167), (2, .ref 115), (1, .ref 0), (0, .ref 1000000)], [.int (-2), .int (-2)], hh258) _
          refine xi_cmt (pc' := 1501) kc_195_1287 rfl rfl ?_
          obtain ⟨v260, ev260⟩ : ∃ q : Int32, x4 + 6 = q := ⟨_, rfl⟩
          have zv260 : v260.toInt = (x4.toInt + 6) := by rw [← ev260]; exact (xz_add (X := x4.toInt) (Y := 6) rfl (by decide) (by omega) (by omega)).trans (by omega)
          refine xi_iinc (pc' := 1504) (x := x4) (v := v260) (lv' := [(4, .int v260), (3, .ref 167), (2, .ref 115), (1, .ref 0), (0, .ref 1000000)]) kc_195_1501 rfl rfl ev260 rfl (xm_lt ml_195 rfl) ?_
          refine xi_goto (pc' := 23) kc_195_1504 rfl ?_
          have A261 := ((eh258.2.1 0 (by decide)).trans ((eh251.2.1 0 (by decide)).trans ((eh248.2.1 0 (by decide)).trans A3)))
          have A262 := ((eh258.2.1 115 (by decide)).trans eh251.1)
          have A263 := ((eh258.2.1 85 (by decide)).trans ((eh251.2.1 85 (by decide)).trans ((eh248.2.1 85 (by decide)).trans A20)))
          exact kk v260 hh258 (by omega) K259 ⟨((xl_of A261 rfl).trans (xl_of A262 rfl).symm), ((xl_of A263 rfl).trans (xl_of A262 rfl).symm)⟩
set_option maxHeartbeats 8000000 in
theorem lc_29 {J : xe_J} {ov : List (List Int32)} (hJ : ∀ d mj as h, mj ≠ xe_loff → J d mj as h = none) (hov1 : ov[1]? = some [10, 0, 0, 0, 0, 0]) (hov2 : ov[2]? = some [99, 30, 50, 50, 1, 99999]) {xs : List Int32} (hov0 : ov[0]? = some xs) {Q : Option Value → xe_H → Prop} {h : xe_H} {x4 : Int32} (hi0 : 0 ≤ x4.toInt) (hi1 : x4.toInt + 6 ≤ xs.length) (hi2 : x4.toInt ≤ 3066) (T : xt h) (kk : ∀ (i : Int32) (h' : xe_H), i.toInt = x4.toInt + 6 → xk [(0, 9), (115, 1), (85, 8), (115, 56)] h h' → xw J ov 100 195 (23, [(4, .int i), (3, .ref 167), (2, .ref 115), (1, .ref 0), (0, .ref 1000000)], [], h') Q) : xw J ov 100 195 (1292, [(4, .int x4), (3, .ref 167), (2, .ref 115), (1, .ref 0), (0, .ref 1000000)], [], h) Q := by
  have K : xk [(0, 9), (115, 1), (85, 8), (115, 56)] h h := xk_re T
  refine xi_aload_n (pc' := 1293) (x := 0) kc_195_1292 rfl rfl ?_
  refine xi_aload_n (pc' := 1294) (x := 1000000) kc_195_1293 rfl rfl ?_
  refine xi_iload (pc' := 1296) (x := x4) kc_195_1294 rfl rfl ?_
  refine xi_iconst (pc' := 1297) (v := 1) kc_195_1296 rfl rfl ?_
  obtain ⟨v1, ev1⟩ : ∃ q : Int32, x4 + 1 = q := ⟨_, rfl⟩
  have zv1 : v1.toInt = (x4.toInt + 1) := by rw [← ev1]; exact (xz_add (X := x4.toInt) (Y := 1) rfl (by decide) (by omega) (by omega)).trans (by omega)
  refine xi_iadd (pc' := 1298) (v := v1) kc_195_1297 rfl ev1 ?_
  obtain ⟨a2, ea2⟩ : ∃ q : Int32, xs.getD (Int32.toNatClampNeg v1) 0 = q := ⟨_, rfl⟩
  have ra2 := xc_rng a2
  refine xi_ialoadO (pc' := 1299) (v := a2) kc_195_1298 rfl (by decide) hov0 (xi_in (by omega) (by omega)) ea2 ?_
  by_cases c3 : a2.toInt = 0
  · refine xi_ift (pc' := 1306) kc_195_1299 rfl (xc_eq_t (X := a2.toInt) (Y := 0) rfl (by decide) (by omega)) ?_
    refine xi_iconst (pc' := 1307) (v := 0) kc_195_1306 rfl rfl ?_
    obtain ⟨u4, u5, bu4, bu5, A6⟩ := xq_0 K.1
    refine xi_virtual (mj := 179) (as := [.int 0]) (st1 := []) (lv0 := [(0, .ref 0), (1, .int 0)]) kc_195_1307 rfl rfl rfl rfl rfl A6 (Nat.le_of_ble_eq_true rfl) (hJ _ _ _ _ (by decide)) (xm_le ml_179 rfl) rfl ?_
    have zc0 : (0 : Int32).toInt = 0 := by decide
    refine mt_179_0 hJ hov1 hov2 (d := 98) (x1 := 0) K.1 (by first | omega | decide) (fun r7 hh8 br7 K9 => ?_)
    have K10 := xk_tr K K9 rfl
    obtain ⟨u11, u12, bu11, bu12, A13⟩ := xq_0 K10.1
    have e14 : u5 = u12 := xk_eqi (q := 9) K9 rfl A6 A13 rfl rfl
    subst e14
    show xw J ov 100 195 (1310, [(4, .int x4), (3, .ref 167), (2, .ref 115), (1, .ref 0), (0, .ref 1000000)], [.int r7], hh8) _
    refine xi_pop (pc' := 1311) kc_195_1310 rfl rfl ?_
    refine xi_aload_n (pc' := 1312) (x := 115) kc_195_1311 rfl rfl ?_
    refine xi_aload_n (pc' := 1313) (x := 1000000) kc_195_1312 rfl rfl ?_
    refine xi_iload (pc' := 1315) (x := x4) kc_195_1313 rfl rfl ?_
    refine xi_iconst (pc' := 1316) (v := 1) kc_195_1315 rfl rfl ?_
    refine xi_iadd (pc' := 1317) (v := v1) kc_195_1316 rfl ev1 ?_
    refine xi_ialoadO (pc' := 1318) (v := a2) kc_195_1317 rfl (by decide) hov0 (xi_in (by omega) (by omega)) ea2 ?_
    refine xi_ift (pc' := 1325) kc_195_1318 rfl (xc_eq_t (X := a2.toInt) (Y := 0) rfl (by decide) (by omega)) ?_
    refine xi_iconst (pc' := 1326) (v := 0) kc_195_1325 rfl rfl ?_
    obtain ⟨u15, u16, u17, u18, u19, u20, u21, u22, u23, u24, u25, u26, u27, bu15, bu16, bu17, bu18, bu19, bu20, bu21, bu22, bu23, bu24, bu25, bu26, bu27, A28⟩ := xq_115 K10.1
    refine xi_virtual (mj := 71) (as := [.int 0]) (st1 := []) (lv0 := [(0, .ref 115), (1, .int 0)]) kc_195_1326 rfl rfl rfl rfl rfl A28 (Nat.le_of_ble_eq_true rfl) (hJ _ _ _ _ (by decide)) (xm_le ml_71 rfl) rfl ?_
    have zc0 : (0 : Int32).toInt = 0 := by decide
    refine mt_71_0 hJ hov1 hov2 (d := 98) (x1 := 0) K10.1 (by first | omega | decide) (fun r29 hh30 br29 K31 => ?_)
    have K32 := xk_tr K10 K31 rfl
    obtain ⟨u33, u34, bu33, bu34, A35⟩ := xq_0 K32.1
    have e36 : u5 = u34 := xk_eqi (q := 9) K31 rfl A13 A35 rfl rfl
    subst e36
    obtain ⟨u37, u38, u39, u40, u41, u42, u43, u44, u45, u46, u47, u48, u49, bu37, bu38, bu39, bu40, bu41, bu42, bu43, bu44, bu45, bu46, bu47, bu48, bu49, A50⟩ := xq_115 K32.1
    have e51 : u16 = u38 := xk_eqi (q := 1) K31 rfl A28 A50 rfl rfl
    subst e51
    have e52 : u26 = u48 := xk_eqi (q := 56) K31 rfl A28 A50 rfl rfl
    subst e52
    show xw J ov 100 195 (1329, [(4, .int x4), (3, .ref 167), (2, .ref 115), (1, .ref 0), (0, .ref 1000000)], [.int r29], hh30) _
    refine xi_pop (pc' := 1330) kc_195_1329 rfl rfl ?_
    refine xi_goto (pc' := 1501) kc_195_1330 rfl ?_
    obtain ⟨v53, ev53⟩ : ∃ q : Int32, x4 + 6 = q := ⟨_, rfl⟩
    have zv53 : v53.toInt = (x4.toInt + 6) := by rw [← ev53]; exact (xz_add (X := x4.toInt) (Y := 6) rfl (by decide) (by omega) (by omega)).trans (by omega)
    refine xi_iinc (pc' := 1504) (x := x4) (v := v53) (lv' := [(4, .int v53), (3, .ref 167), (2, .ref 115), (1, .ref 0), (0, .ref 1000000)]) kc_195_1501 rfl rfl ev53 rfl (xm_lt ml_195 rfl) ?_
    refine xi_goto (pc' := 23) kc_195_1504 rfl ?_
    exact kk v53 hh30 (by omega) K32
  · refine xi_iff (pc' := 1302) kc_195_1299 rfl (xc_eq_f (X := a2.toInt) (Y := 0) rfl (by decide) (by omega)) ?_
    refine xi_iconst (pc' := 1303) (v := 1) kc_195_1302 rfl rfl ?_
    refine xi_goto (pc' := 1307) kc_195_1303 rfl ?_
    obtain ⟨u54, u55, bu54, bu55, A56⟩ := xq_0 K.1
    refine xi_virtual (mj := 179) (as := [.int 1]) (st1 := []) (lv0 := [(0, .ref 0), (1, .int 1)]) kc_195_1307 rfl rfl rfl rfl rfl A56 (Nat.le_of_ble_eq_true rfl) (hJ _ _ _ _ (by decide)) (xm_le ml_179 rfl) rfl ?_
    have zc1 : (1 : Int32).toInt = 1 := by decide
    refine mt_179_0 hJ hov1 hov2 (d := 98) (x1 := 1) K.1 (by first | omega | decide) (fun r57 hh58 br57 K59 => ?_)
    have K60 := xk_tr K K59 rfl
    obtain ⟨u61, u62, bu61, bu62, A63⟩ := xq_0 K60.1
    have e64 : u55 = u62 := xk_eqi (q := 9) K59 rfl A56 A63 rfl rfl
    subst e64
    show xw J ov 100 195 (1310, [(4, .int x4), (3, .ref 167), (2, .ref 115), (1, .ref 0), (0, .ref 1000000)], [.int r57], hh58) _
    refine xi_pop (pc' := 1311) kc_195_1310 rfl rfl ?_
    refine xi_aload_n (pc' := 1312) (x := 115) kc_195_1311 rfl rfl ?_
    refine xi_aload_n (pc' := 1313) (x := 1000000) kc_195_1312 rfl rfl ?_
    refine xi_iload (pc' := 1315) (x := x4) kc_195_1313 rfl rfl ?_
    refine xi_iconst (pc' := 1316) (v := 1) kc_195_1315 rfl rfl ?_
    refine xi_iadd (pc' := 1317) (v := v1) kc_195_1316 rfl ev1 ?_
    refine xi_ialoadO (pc' := 1318) (v := a2) kc_195_1317 rfl (by decide) hov0 (xi_in (by omega) (by omega)) ea2 ?_
    refine xi_iff (pc' := 1321) kc_195_1318 rfl (xc_eq_f (X := a2.toInt) (Y := 0) rfl (by decide) (by omega)) ?_
    refine xi_iconst (pc' := 1322) (v := 1) kc_195_1321 rfl rfl ?_
    refine xi_goto (pc' := 1326) kc_195_1322 rfl ?_
    obtain ⟨u65, u66, u67, u68, u69, u70, u71, u72, u73, u74, u75, u76, u77, bu65, bu66, bu67, bu68, bu69, bu70, bu71, bu72, bu73, bu74, bu75, bu76, bu77, A78⟩ := xq_115 K60.1
    refine xi_virtual (mj := 71) (as := [.int 1]) (st1 := []) (lv0 := [(0, .ref 115), (1, .int 1)]) kc_195_1326 rfl rfl rfl rfl rfl A78 (Nat.le_of_ble_eq_true rfl) (hJ _ _ _ _ (by decide)) (xm_le ml_71 rfl) rfl ?_
    have zc1 : (1 : Int32).toInt = 1 := by decide
    refine mt_71_0 hJ hov1 hov2 (d := 98) (x1 := 1) K60.1 (by first | omega | decide) (fun r79 hh80 br79 K81 => ?_)
    have K82 := xk_tr K60 K81 rfl
    obtain ⟨u83, u84, bu83, bu84, A85⟩ := xq_0 K82.1
    have e86 : u55 = u84 := xk_eqi (q := 9) K81 rfl A63 A85 rfl rfl
    subst e86
    obtain ⟨u87, u88, u89, u90, u91, u92, u93, u94, u95, u96, u97, u98, u99, bu87, bu88, bu89, bu90, bu91, bu92, bu93, bu94, bu95, bu96, bu97, bu98, bu99, A100⟩ := xq_115 K82.1
    have e101 : u66 = u88 := xk_eqi (q := 1) K81 rfl A78 A100 rfl rfl
    subst e101
    have e102 : u76 = u98 := xk_eqi (q := 56) K81 rfl A78 A100 rfl rfl
    subst e102
    show xw J ov 100 195 (1329, [(4, .int x4), (3, .ref 167), (2, .ref 115), (1, .ref 0), (0, .ref 1000000)], [.int r79], hh80) _
    refine xi_pop (pc' := 1330) kc_195_1329 rfl rfl ?_
    refine xi_goto (pc' := 1501) kc_195_1330 rfl ?_
    obtain ⟨v103, ev103⟩ : ∃ q : Int32, x4 + 6 = q := ⟨_, rfl⟩
    have zv103 : v103.toInt = (x4.toInt + 6) := by rw [← ev103]; exact (xz_add (X := x4.toInt) (Y := 6) rfl (by decide) (by omega) (by omega)).trans (by omega)
    refine xi_iinc (pc' := 1504) (x := x4) (v := v103) (lv' := [(4, .int v103), (3, .ref 167), (2, .ref 115), (1, .ref 0), (0, .ref 1000000)]) kc_195_1501 rfl rfl ev103 rfl (xm_lt ml_195 rfl) ?_
    refine xi_goto (pc' := 23) kc_195_1504 rfl ?_
    exact kk v103 hh80 (by omega) K82
set_option maxHeartbeats 8000000 in
theorem lc_30 {J : xe_J} {ov : List (List Int32)} (hJ : ∀ d mj as h, mj ≠ xe_loff → J d mj as h = none) (hov1 : ov[1]? = some [10, 0, 0, 0, 0, 0]) (hov2 : ov[2]? = some [99, 30, 50, 50, 1, 99999]) {xs : List Int32} (hov0 : ov[0]? = some xs) {Q : Option Value → xe_H → Prop} {h : xe_H} {x4 : Int32} (hi0 : 0 ≤ x4.toInt) (hi1 : x4.toInt + 6 ≤ xs.length) (hi2 : x4.toInt ≤ 3066) (T : xt h) (kk : ∀ (i : Int32) (h' : xe_H), i.toInt = x4.toInt + 6 → xk [(0, 9), (115, 1), (85, 8), (115, 56)] h h' → xw J ov 100 195 (23, [(4, .int i), (3, .ref 167), (2, .ref 115), (1, .ref 0), (0, .ref 1000000)], [], h') Q) : xw J ov 100 195 (1333, [(4, .int x4), (3, .ref 167), (2, .ref 115), (1, .ref 0), (0, .ref 1000000)], [], h) Q := by
  have K : xk [(0, 9), (115, 1), (85, 8), (115, 56)] h h := xk_re T
  refine xi_aload_n (pc' := 1334) (x := 0) kc_195_1333 rfl rfl ?_
  refine xi_aload_n (pc' := 1335) (x := 1000000) kc_195_1334 rfl rfl ?_
  refine xi_iload (pc' := 1337) (x := x4) kc_195_1335 rfl rfl ?_
  refine xi_iconst (pc' := 1338) (v := 1) kc_195_1337 rfl rfl ?_
  obtain ⟨v1, ev1⟩ : ∃ q : Int32, x4 + 1 = q := ⟨_, rfl⟩
  have zv1 : v1.toInt = (x4.toInt + 1) := by rw [← ev1]; exact (xz_add (X := x4.toInt) (Y := 1) rfl (by decide) (by omega) (by omega)).trans (by omega)
  refine xi_iadd (pc' := 1339) (v := v1) kc_195_1338 rfl ev1 ?_
  obtain ⟨a2, ea2⟩ : ∃ q : Int32, xs.getD (Int32.toNatClampNeg v1) 0 = q := ⟨_, rfl⟩
  have ra2 := xc_rng a2
  refine xi_ialoadO (pc' := 1340) (v := a2) kc_195_1339 rfl (by decide) hov0 (xi_in (by omega) (by omega)) ea2 ?_
  by_cases c3 : a2.toInt = 0
  · refine xi_ift (pc' := 1347) kc_195_1340 rfl (xc_eq_t (X := a2.toInt) (Y := 0) rfl (by decide) (by omega)) ?_
    refine xi_iconst (pc' := 1348) (v := 0) kc_195_1347 rfl rfl ?_
    refine xi_aload_n (pc' := 1349) (x := 1000000) kc_195_1348 rfl rfl ?_
    refine xi_iload (pc' := 1351) (x := x4) kc_195_1349 rfl rfl ?_
    refine xi_iconst (pc' := 1352) (v := 2) kc_195_1351 rfl rfl ?_
    obtain ⟨v4, ev4⟩ : ∃ q : Int32, x4 + 2 = q := ⟨_, rfl⟩
    have zv4 : v4.toInt = (x4.toInt + 2) := by rw [← ev4]; exact (xz_add (X := x4.toInt) (Y := 2) rfl (by decide) (by omega) (by omega)).trans (by omega)
    refine xi_iadd (pc' := 1353) (v := v4) kc_195_1352 rfl ev4 ?_
    obtain ⟨a5, ea5⟩ : ∃ q : Int32, xs.getD (Int32.toNatClampNeg v4) 0 = q := ⟨_, rfl⟩
    have ra5 := xc_rng a5
    refine xi_ialoadO (pc' := 1354) (v := a5) kc_195_1353 rfl (by decide) hov0 (xi_in (by omega) (by omega)) ea5 ?_
    refine xi_aload_n (pc' := 1355) (x := 1000000) kc_195_1354 rfl rfl ?_
    refine xi_iload (pc' := 1357) (x := x4) kc_195_1355 rfl rfl ?_
    refine xi_iconst (pc' := 1358) (v := 3) kc_195_1357 rfl rfl ?_
    obtain ⟨v6, ev6⟩ : ∃ q : Int32, x4 + 3 = q := ⟨_, rfl⟩
    have zv6 : v6.toInt = (x4.toInt + 3) := by rw [← ev6]; exact (xz_add (X := x4.toInt) (Y := 3) rfl (by decide) (by omega) (by omega)).trans (by omega)
    refine xi_iadd (pc' := 1359) (v := v6) kc_195_1358 rfl ev6 ?_
    obtain ⟨a7, ea7⟩ : ∃ q : Int32, xs.getD (Int32.toNatClampNeg v6) 0 = q := ⟨_, rfl⟩
    have ra7 := xc_rng a7
    refine xi_ialoadO (pc' := 1360) (v := a7) kc_195_1359 rfl (by decide) hov0 (xi_in (by omega) (by omega)) ea7 ?_
    by_cases c8 : a7.toInt = 0
    · refine xi_ift (pc' := 1367) kc_195_1360 rfl (xc_eq_t (X := a7.toInt) (Y := 0) rfl (by decide) (by omega)) ?_
      refine xi_iconst (pc' := 1368) (v := 0) kc_195_1367 rfl rfl ?_
      obtain ⟨u9, u10, bu9, bu10, A11⟩ := xq_0 K.1
      refine xi_virtual (mj := 180) (as := [.int 0, .int a5, .int 0]) (st1 := []) (lv0 := [(0, .ref 0), (1, .int 0), (2, .int a5), (3, .int 0)]) kc_195_1368 rfl rfl rfl rfl rfl A11 (Nat.le_of_ble_eq_true rfl) (hJ _ _ _ _ (by decide)) (xm_le ml_180 rfl) rfl ?_
      have zc0 : (0 : Int32).toInt = 0 := by decide
      refine mt_180_0 hJ hov1 hov2 (d := 97) (x1 := 0) (x2 := a5) (x3 := 0) K.1 (by first | omega | decide) (by first | omega | decide) (fun r12 hh13 br12 K14 => ?_)
      have K15 := xk_tr K K14 rfl
      obtain ⟨u16, u17, bu16, bu17, A18⟩ := xq_0 K15.1
      have e19 : u10 = u17 := xk_eqi (q := 9) K14 rfl A11 A18 rfl rfl
      subst e19
      show xw J ov 100 195 (1371, [(4, .int x4), (3, .ref 167), (2, .ref 115), (1, .ref 0), (0, .ref 1000000)], [.int r12], hh13) _
      refine xi_pop (pc' := 1372) kc_195_1371 rfl rfl ?_
      refine xi_aload_n (pc' := 1373) (x := 115) kc_195_1372 rfl rfl ?_
      refine xi_aload_n (pc' := 1374) (x := 1000000) kc_195_1373 rfl rfl ?_
      refine xi_iload (pc' := 1376) (x := x4) kc_195_1374 rfl rfl ?_
      refine xi_iconst (pc' := 1377) (v := 1) kc_195_1376 rfl rfl ?_
      refine xi_iadd (pc' := 1378) (v := v1) kc_195_1377 rfl ev1 ?_
      refine xi_ialoadO (pc' := 1379) (v := a2) kc_195_1378 rfl (by decide) hov0 (xi_in (by omega) (by omega)) ea2 ?_
      refine xi_ift (pc' := 1386) kc_195_1379 rfl (xc_eq_t (X := a2.toInt) (Y := 0) rfl (by decide) (by omega)) ?_
      refine xi_iconst (pc' := 1387) (v := 0) kc_195_1386 rfl rfl ?_
      refine xi_aload_n (pc' := 1388) (x := 1000000) kc_195_1387 rfl rfl ?_
      refine xi_iload (pc' := 1390) (x := x4) kc_195_1388 rfl rfl ?_
      refine xi_iconst (pc' := 1391) (v := 2) kc_195_1390 rfl rfl ?_
      refine xi_iadd (pc' := 1392) (v := v4) kc_195_1391 rfl ev4 ?_
      refine xi_ialoadO (pc' := 1393) (v := a5) kc_195_1392 rfl (by decide) hov0 (xi_in (by omega) (by omega)) ea5 ?_
      refine xi_aload_n (pc' := 1394) (x := 1000000) kc_195_1393 rfl rfl ?_
      refine xi_iload (pc' := 1396) (x := x4) kc_195_1394 rfl rfl ?_
      refine xi_iconst (pc' := 1397) (v := 3) kc_195_1396 rfl rfl ?_
      refine xi_iadd (pc' := 1398) (v := v6) kc_195_1397 rfl ev6 ?_
      refine xi_ialoadO (pc' := 1399) (v := a7) kc_195_1398 rfl (by decide) hov0 (xi_in (by omega) (by omega)) ea7 ?_
      refine xi_ift (pc' := 1406) kc_195_1399 rfl (xc_eq_t (X := a7.toInt) (Y := 0) rfl (by decide) (by omega)) ?_
      refine xi_iconst (pc' := 1407) (v := 0) kc_195_1406 rfl rfl ?_
      obtain ⟨u20, u21, u22, u23, u24, u25, u26, u27, u28, u29, u30, u31, u32, bu20, bu21, bu22, bu23, bu24, bu25, bu26, bu27, bu28, bu29, bu30, bu31, bu32, A33⟩ := xq_115 K15.1
      refine xi_virtual (mj := 72) (as := [.int 0, .int a5, .int 0]) (st1 := []) (lv0 := [(0, .ref 115), (1, .int 0), (2, .int a5), (3, .int 0)]) kc_195_1407 rfl rfl rfl rfl rfl A33 (Nat.le_of_ble_eq_true rfl) (hJ _ _ _ _ (by decide)) (xm_le ml_72 rfl) rfl ?_
      have zc0 : (0 : Int32).toInt = 0 := by decide
      refine mt_72_0 hJ hov1 hov2 (d := 98) (x1 := 0) (x2 := a5) (x3 := 0) K15.1 (by first | omega | decide) (by first | omega | decide) (fun r34 hh35 br34 K36 => ?_)
      have K37 := xk_tr K15 K36 rfl
      obtain ⟨u38, u39, bu38, bu39, A40⟩ := xq_0 K37.1
      have e41 : u10 = u39 := xk_eqi (q := 9) K36 rfl A18 A40 rfl rfl
      subst e41
      obtain ⟨u42, u43, u44, u45, u46, u47, u48, u49, u50, u51, u52, u53, u54, bu42, bu43, bu44, bu45, bu46, bu47, bu48, bu49, bu50, bu51, bu52, bu53, bu54, A55⟩ := xq_115 K37.1
      have e56 : u21 = u43 := xk_eqi (q := 1) K36 rfl A33 A55 rfl rfl
      subst e56
      have e57 : u31 = u53 := xk_eqi (q := 56) K36 rfl A33 A55 rfl rfl
      subst e57
      show xw J ov 100 195 (1410, [(4, .int x4), (3, .ref 167), (2, .ref 115), (1, .ref 0), (0, .ref 1000000)], [.int r34], hh35) _
      refine xi_pop (pc' := 1411) kc_195_1410 rfl rfl ?_
      refine xi_goto (pc' := 1501) kc_195_1411 rfl ?_
      obtain ⟨v58, ev58⟩ : ∃ q : Int32, x4 + 6 = q := ⟨_, rfl⟩
      have zv58 : v58.toInt = (x4.toInt + 6) := by rw [← ev58]; exact (xz_add (X := x4.toInt) (Y := 6) rfl (by decide) (by omega) (by omega)).trans (by omega)
      refine xi_iinc (pc' := 1504) (x := x4) (v := v58) (lv' := [(4, .int v58), (3, .ref 167), (2, .ref 115), (1, .ref 0), (0, .ref 1000000)]) kc_195_1501 rfl rfl ev58 rfl (xm_lt ml_195 rfl) ?_
      refine xi_goto (pc' := 23) kc_195_1504 rfl ?_
      exact kk v58 hh35 (by omega) K37
    · refine xi_iff (pc' := 1363) kc_195_1360 rfl (xc_eq_f (X := a7.toInt) (Y := 0) rfl (by decide) (by omega)) ?_
      refine xi_iconst (pc' := 1364) (v := 1) kc_195_1363 rfl rfl ?_
      refine xi_goto (pc' := 1368) kc_195_1364 rfl ?_
      obtain ⟨u59, u60, bu59, bu60, A61⟩ := xq_0 K.1
      refine xi_virtual (mj := 180) (as := [.int 0, .int a5, .int 1]) (st1 := []) (lv0 := [(0, .ref 0), (1, .int 0), (2, .int a5), (3, .int 1)]) kc_195_1368 rfl rfl rfl rfl rfl A61 (Nat.le_of_ble_eq_true rfl) (hJ _ _ _ _ (by decide)) (xm_le ml_180 rfl) rfl ?_
      have zc0 : (0 : Int32).toInt = 0 := by decide
      have zc1 : (1 : Int32).toInt = 1 := by decide
      refine mt_180_0 hJ hov1 hov2 (d := 97) (x1 := 0) (x2 := a5) (x3 := 1) K.1 (by first | omega | decide) (by first | omega | decide) (fun r62 hh63 br62 K64 => ?_)
      have K65 := xk_tr K K64 rfl
      obtain ⟨u66, u67, bu66, bu67, A68⟩ := xq_0 K65.1
      have e69 : u60 = u67 := xk_eqi (q := 9) K64 rfl A61 A68 rfl rfl
      subst e69
      show xw J ov 100 195 (1371, [(4, .int x4), (3, .ref 167), (2, .ref 115), (1, .ref 0), (0, .ref 1000000)], [.int r62], hh63) _
      refine xi_pop (pc' := 1372) kc_195_1371 rfl rfl ?_
      refine xi_aload_n (pc' := 1373) (x := 115) kc_195_1372 rfl rfl ?_
      refine xi_aload_n (pc' := 1374) (x := 1000000) kc_195_1373 rfl rfl ?_
      refine xi_iload (pc' := 1376) (x := x4) kc_195_1374 rfl rfl ?_
      refine xi_iconst (pc' := 1377) (v := 1) kc_195_1376 rfl rfl ?_
      refine xi_iadd (pc' := 1378) (v := v1) kc_195_1377 rfl ev1 ?_
      refine xi_ialoadO (pc' := 1379) (v := a2) kc_195_1378 rfl (by decide) hov0 (xi_in (by omega) (by omega)) ea2 ?_
      refine xi_ift (pc' := 1386) kc_195_1379 rfl (xc_eq_t (X := a2.toInt) (Y := 0) rfl (by decide) (by omega)) ?_
      refine xi_iconst (pc' := 1387) (v := 0) kc_195_1386 rfl rfl ?_
      refine xi_aload_n (pc' := 1388) (x := 1000000) kc_195_1387 rfl rfl ?_
      refine xi_iload (pc' := 1390) (x := x4) kc_195_1388 rfl rfl ?_
      refine xi_iconst (pc' := 1391) (v := 2) kc_195_1390 rfl rfl ?_
      refine xi_iadd (pc' := 1392) (v := v4) kc_195_1391 rfl ev4 ?_
      refine xi_ialoadO (pc' := 1393) (v := a5) kc_195_1392 rfl (by decide) hov0 (xi_in (by omega) (by omega)) ea5 ?_
      refine xi_aload_n (pc' := 1394) (x := 1000000) kc_195_1393 rfl rfl ?_
      refine xi_iload (pc' := 1396) (x := x4) kc_195_1394 rfl rfl ?_
      refine xi_iconst (pc' := 1397) (v := 3) kc_195_1396 rfl rfl ?_
      refine xi_iadd (pc' := 1398) (v := v6) kc_195_1397 rfl ev6 ?_
      refine xi_ialoadO (pc' := 1399) (v := a7) kc_195_1398 rfl (by decide) hov0 (xi_in (by omega) (by omega)) ea7 ?_
      refine xi_iff (pc' := 1402) kc_195_1399 rfl (xc_eq_f (X := a7.toInt) (Y := 0) rfl (by decide) (by omega)) ?_
      refine xi_iconst (pc' := 1403) (v := 1) kc_195_1402 rfl rfl ?_
      refine xi_goto (pc' := 1407) kc_195_1403 rfl ?_
      obtain ⟨u70, u71, u72, u73, u74, u75, u76, u77, u78, u79, u80, u81, u82, bu70, bu71, bu72, bu73, bu74, bu75, bu76, bu77, bu78, bu79, bu80, bu81, bu82, A83⟩ := xq_115 K65.1
      refine xi_virtual (mj := 72) (as := [.int 0, .int a5, .int 1]) (st1 := []) (lv0 := [(0, .ref 115), (1, .int 0), (2, .int a5), (3, .int 1)]) kc_195_1407 rfl rfl rfl rfl rfl A83 (Nat.le_of_ble_eq_true rfl) (hJ _ _ _ _ (by decide)) (xm_le ml_72 rfl) rfl ?_
      have zc0 : (0 : Int32).toInt = 0 := by decide
      have zc1 : (1 : Int32).toInt = 1 := by decide
      refine mt_72_0 hJ hov1 hov2 (d := 98) (x1 := 0) (x2 := a5) (x3 := 1) K65.1 (by first | omega | decide) (by first | omega | decide) (fun r84 hh85 br84 K86 => ?_)
      have K87 := xk_tr K65 K86 rfl
      obtain ⟨u88, u89, bu88, bu89, A90⟩ := xq_0 K87.1
      have e91 : u60 = u89 := xk_eqi (q := 9) K86 rfl A68 A90 rfl rfl
      subst e91
      obtain ⟨u92, u93, u94, u95, u96, u97, u98, u99, u100, u101, u102, u103, u104, bu92, bu93, bu94, bu95, bu96, bu97, bu98, bu99, bu100, bu101, bu102, bu103, bu104, A105⟩ := xq_115 K87.1
      have e106 : u71 = u93 := xk_eqi (q := 1) K86 rfl A83 A105 rfl rfl
      subst e106
      have e107 : u81 = u103 := xk_eqi (q := 56) K86 rfl A83 A105 rfl rfl
      subst e107
      show xw J ov 100 195 (1410, [(4, .int x4), (3, .ref 167), (2, .ref 115), (1, .ref 0), (0, .ref 1000000)], [.int r84], hh85) _
      refine xi_pop (pc' := 1411) kc_195_1410 rfl rfl ?_
      refine xi_goto (pc' := 1501) kc_195_1411 rfl ?_
      obtain ⟨v108, ev108⟩ : ∃ q : Int32, x4 + 6 = q := ⟨_, rfl⟩
      have zv108 : v108.toInt = (x4.toInt + 6) := by rw [← ev108]; exact (xz_add (X := x4.toInt) (Y := 6) rfl (by decide) (by omega) (by omega)).trans (by omega)
      refine xi_iinc (pc' := 1504) (x := x4) (v := v108) (lv' := [(4, .int v108), (3, .ref 167), (2, .ref 115), (1, .ref 0), (0, .ref 1000000)]) kc_195_1501 rfl rfl ev108 rfl (xm_lt ml_195 rfl) ?_
      refine xi_goto (pc' := 23) kc_195_1504 rfl ?_
      exact kk v108 hh85 (by omega) K87
  · refine xi_iff (pc' := 1343) kc_195_1340 rfl (xc_eq_f (X := a2.toInt) (Y := 0) rfl (by decide) (by omega)) ?_
    refine xi_iconst (pc' := 1344) (v := 1) kc_195_1343 rfl rfl ?_
    refine xi_goto (pc' := 1348) kc_195_1344 rfl ?_
    refine xi_aload_n (pc' := 1349) (x := 1000000) kc_195_1348 rfl rfl ?_
    refine xi_iload (pc' := 1351) (x := x4) kc_195_1349 rfl rfl ?_
    refine xi_iconst (pc' := 1352) (v := 2) kc_195_1351 rfl rfl ?_
    obtain ⟨v109, ev109⟩ : ∃ q : Int32, x4 + 2 = q := ⟨_, rfl⟩
    have zv109 : v109.toInt = (x4.toInt + 2) := by rw [← ev109]; exact (xz_add (X := x4.toInt) (Y := 2) rfl (by decide) (by omega) (by omega)).trans (by omega)
    refine xi_iadd (pc' := 1353) (v := v109) kc_195_1352 rfl ev109 ?_
    obtain ⟨a110, ea110⟩ : ∃ q : Int32, xs.getD (Int32.toNatClampNeg v109) 0 = q := ⟨_, rfl⟩
    have ra110 := xc_rng a110
    refine xi_ialoadO (pc' := 1354) (v := a110) kc_195_1353 rfl (by decide) hov0 (xi_in (by omega) (by omega)) ea110 ?_
    refine xi_aload_n (pc' := 1355) (x := 1000000) kc_195_1354 rfl rfl ?_
    refine xi_iload (pc' := 1357) (x := x4) kc_195_1355 rfl rfl ?_
    refine xi_iconst (pc' := 1358) (v := 3) kc_195_1357 rfl rfl ?_
    obtain ⟨v111, ev111⟩ : ∃ q : Int32, x4 + 3 = q := ⟨_, rfl⟩
    have zv111 : v111.toInt = (x4.toInt + 3) := by rw [← ev111]; exact (xz_add (X := x4.toInt) (Y := 3) rfl (by decide) (by omega) (by omega)).trans (by omega)
    refine xi_iadd (pc' := 1359) (v := v111) kc_195_1358 rfl ev111 ?_
    obtain ⟨a112, ea112⟩ : ∃ q : Int32, xs.getD (Int32.toNatClampNeg v111) 0 = q := ⟨_, rfl⟩
    have ra112 := xc_rng a112
    refine xi_ialoadO (pc' := 1360) (v := a112) kc_195_1359 rfl (by decide) hov0 (xi_in (by omega) (by omega)) ea112 ?_
    by_cases c113 : a112.toInt = 0
    · refine xi_ift (pc' := 1367) kc_195_1360 rfl (xc_eq_t (X := a112.toInt) (Y := 0) rfl (by decide) (by omega)) ?_
      refine xi_iconst (pc' := 1368) (v := 0) kc_195_1367 rfl rfl ?_
      obtain ⟨u114, u115, bu114, bu115, A116⟩ := xq_0 K.1
      refine xi_virtual (mj := 180) (as := [.int 1, .int a110, .int 0]) (st1 := []) (lv0 := [(0, .ref 0), (1, .int 1), (2, .int a110), (3, .int 0)]) kc_195_1368 rfl rfl rfl rfl rfl A116 (Nat.le_of_ble_eq_true rfl) (hJ _ _ _ _ (by decide)) (xm_le ml_180 rfl) rfl ?_
      have zc0 : (0 : Int32).toInt = 0 := by decide
      have zc1 : (1 : Int32).toInt = 1 := by decide
      refine mt_180_0 hJ hov1 hov2 (d := 97) (x1 := 1) (x2 := a110) (x3 := 0) K.1 (by first | omega | decide) (by first | omega | decide) (fun r117 hh118 br117 K119 => ?_)
      have K120 := xk_tr K K119 rfl
      obtain ⟨u121, u122, bu121, bu122, A123⟩ := xq_0 K120.1
      have e124 : u115 = u122 := xk_eqi (q := 9) K119 rfl A116 A123 rfl rfl
      subst e124
      show xw J ov 100 195 (1371, [(4, .int x4), (3, .ref 167), (2, .ref 115), (1, .ref 0), (0, .ref 1000000)], [.int r117], hh118) _
      refine xi_pop (pc' := 1372) kc_195_1371 rfl rfl ?_
      refine xi_aload_n (pc' := 1373) (x := 115) kc_195_1372 rfl rfl ?_
      refine xi_aload_n (pc' := 1374) (x := 1000000) kc_195_1373 rfl rfl ?_
      refine xi_iload (pc' := 1376) (x := x4) kc_195_1374 rfl rfl ?_
      refine xi_iconst (pc' := 1377) (v := 1) kc_195_1376 rfl rfl ?_
      refine xi_iadd (pc' := 1378) (v := v1) kc_195_1377 rfl ev1 ?_
      refine xi_ialoadO (pc' := 1379) (v := a2) kc_195_1378 rfl (by decide) hov0 (xi_in (by omega) (by omega)) ea2 ?_
      refine xi_iff (pc' := 1382) kc_195_1379 rfl (xc_eq_f (X := a2.toInt) (Y := 0) rfl (by decide) (by omega)) ?_
      refine xi_iconst (pc' := 1383) (v := 1) kc_195_1382 rfl rfl ?_
      refine xi_goto (pc' := 1387) kc_195_1383 rfl ?_
      refine xi_aload_n (pc' := 1388) (x := 1000000) kc_195_1387 rfl rfl ?_
      refine xi_iload (pc' := 1390) (x := x4) kc_195_1388 rfl rfl ?_
      refine xi_iconst (pc' := 1391) (v := 2) kc_195_1390 rfl rfl ?_
      refine xi_iadd (pc' := 1392) (v := v109) kc_195_1391 rfl ev109 ?_
      refine xi_ialoadO (pc' := 1393) (v := a110) kc_195_1392 rfl (by decide) hov0 (xi_in (by omega) (by omega)) ea110 ?_
      refine xi_aload_n (pc' := 1394) (x := 1000000) kc_195_1393 rfl rfl ?_
      refine xi_iload (pc' := 1396) (x := x4) kc_195_1394 rfl rfl ?_
      refine xi_iconst (pc' := 1397) (v := 3) kc_195_1396 rfl rfl ?_
      refine xi_iadd (pc' := 1398) (v := v111) kc_195_1397 rfl ev111 ?_
      refine xi_ialoadO (pc' := 1399) (v := a112) kc_195_1398 rfl (by decide) hov0 (xi_in (by omega) (by omega)) ea112 ?_
      refine xi_ift (pc' := 1406) kc_195_1399 rfl (xc_eq_t (X := a112.toInt) (Y := 0) rfl (by decide) (by omega)) ?_
      refine xi_iconst (pc' := 1407) (v := 0) kc_195_1406 rfl rfl ?_
      obtain ⟨u125, u126, u127, u128, u129, u130, u131, u132, u133, u134, u135, u136, u137, bu125, bu126, bu127, bu128, bu129, bu130, bu131, bu132, bu133, bu134, bu135, bu136, bu137, A138⟩ := xq_115 K120.1
      refine xi_virtual (mj := 72) (as := [.int 1, .int a110, .int 0]) (st1 := []) (lv0 := [(0, .ref 115), (1, .int 1), (2, .int a110), (3, .int 0)]) kc_195_1407 rfl rfl rfl rfl rfl A138 (Nat.le_of_ble_eq_true rfl) (hJ _ _ _ _ (by decide)) (xm_le ml_72 rfl) rfl ?_
      have zc0 : (0 : Int32).toInt = 0 := by decide
      have zc1 : (1 : Int32).toInt = 1 := by decide
      refine mt_72_0 hJ hov1 hov2 (d := 98) (x1 := 1) (x2 := a110) (x3 := 0) K120.1 (by first | omega | decide) (by first | omega | decide) (fun r139 hh140 br139 K141 => ?_)
      have K142 := xk_tr K120 K141 rfl
      obtain ⟨u143, u144, bu143, bu144, A145⟩ := xq_0 K142.1
      have e146 : u115 = u144 := xk_eqi (q := 9) K141 rfl A123 A145 rfl rfl
      subst e146
      obtain ⟨u147, u148, u149, u150, u151, u152, u153, u154, u155, u156, u157, u158, u159, bu147, bu148, bu149, bu150, bu151, bu152, bu153, bu154, bu155, bu156, bu157, bu158, bu159, A160⟩ := xq_115 K142.1
      have e161 : u126 = u148 := xk_eqi (q := 1) K141 rfl A138 A160 rfl rfl
      subst e161
      have e162 : u136 = u158 := xk_eqi (q := 56) K141 rfl A138 A160 rfl rfl
      subst e162
      show xw J ov 100 195 (1410, [(4, .int x4), (3, .ref 167), (2, .ref 115), (1, .ref 0), (0, .ref 1000000)], [.int r139], hh140) _
      refine xi_pop (pc' := 1411) kc_195_1410 rfl rfl ?_
      refine xi_goto (pc' := 1501) kc_195_1411 rfl ?_
      obtain ⟨v163, ev163⟩ : ∃ q : Int32, x4 + 6 = q := ⟨_, rfl⟩
      have zv163 : v163.toInt = (x4.toInt + 6) := by rw [← ev163]; exact (xz_add (X := x4.toInt) (Y := 6) rfl (by decide) (by omega) (by omega)).trans (by omega)
      refine xi_iinc (pc' := 1504) (x := x4) (v := v163) (lv' := [(4, .int v163), (3, .ref 167), (2, .ref 115), (1, .ref 0), (0, .ref 1000000)]) kc_195_1501 rfl rfl ev163 rfl (xm_lt ml_195 rfl) ?_
      refine xi_goto (pc' := 23) kc_195_1504 rfl ?_
      exact kk v163 hh140 (by omega) K142
    · refine xi_iff (pc' := 1363) kc_195_1360 rfl (xc_eq_f (X := a112.toInt) (Y := 0) rfl (by decide) (by omega)) ?_
      refine xi_iconst (pc' := 1364) (v := 1) kc_195_1363 rfl rfl ?_
      refine xi_goto (pc' := 1368) kc_195_1364 rfl ?_
      obtain ⟨u164, u165, bu164, bu165, A166⟩ := xq_0 K.1
      refine xi_virtual (mj := 180) (as := [.int 1, .int a110, .int 1]) (st1 := []) (lv0 := [(0, .ref 0), (1, .int 1), (2, .int a110), (3, .int 1)]) kc_195_1368 rfl rfl rfl rfl rfl A166 (Nat.le_of_ble_eq_true rfl) (hJ _ _ _ _ (by decide)) (xm_le ml_180 rfl) rfl ?_
      have zc1 : (1 : Int32).toInt = 1 := by decide
      refine mt_180_0 hJ hov1 hov2 (d := 97) (x1 := 1) (x2 := a110) (x3 := 1) K.1 (by first | omega | decide) (by first | omega | decide) (fun r167 hh168 br167 K169 => ?_)
      have K170 := xk_tr K K169 rfl
      obtain ⟨u171, u172, bu171, bu172, A173⟩ := xq_0 K170.1
      have e174 : u165 = u172 := xk_eqi (q := 9) K169 rfl A166 A173 rfl rfl
      subst e174
      show xw J ov 100 195 (1371, [(4, .int x4), (3, .ref 167), (2, .ref 115), (1, .ref 0), (0, .ref 1000000)], [.int r167], hh168) _
      refine xi_pop (pc' := 1372) kc_195_1371 rfl rfl ?_
      refine xi_aload_n (pc' := 1373) (x := 115) kc_195_1372 rfl rfl ?_
      refine xi_aload_n (pc' := 1374) (x := 1000000) kc_195_1373 rfl rfl ?_
      refine xi_iload (pc' := 1376) (x := x4) kc_195_1374 rfl rfl ?_
      refine xi_iconst (pc' := 1377) (v := 1) kc_195_1376 rfl rfl ?_
      refine xi_iadd (pc' := 1378) (v := v1) kc_195_1377 rfl ev1 ?_
      refine xi_ialoadO (pc' := 1379) (v := a2) kc_195_1378 rfl (by decide) hov0 (xi_in (by omega) (by omega)) ea2 ?_
      refine xi_iff (pc' := 1382) kc_195_1379 rfl (xc_eq_f (X := a2.toInt) (Y := 0) rfl (by decide) (by omega)) ?_
      refine xi_iconst (pc' := 1383) (v := 1) kc_195_1382 rfl rfl ?_
      refine xi_goto (pc' := 1387) kc_195_1383 rfl ?_
      refine xi_aload_n (pc' := 1388) (x := 1000000) kc_195_1387 rfl rfl ?_
      refine xi_iload (pc' := 1390) (x := x4) kc_195_1388 rfl rfl ?_
      refine xi_iconst (pc' := 1391) (v := 2) kc_195_1390 rfl rfl ?_
      refine xi_iadd (pc' := 1392) (v := v109) kc_195_1391 rfl ev109 ?_
      refine xi_ialoadO (pc' := 1393) (v := a110) kc_195_1392 rfl (by decide) hov0 (xi_in (by omega) (by omega)) ea110 ?_
      refine xi_aload_n (pc' := 1394) (x := 1000000) kc_195_1393 rfl rfl ?_
      refine xi_iload (pc' := 1396) (x := x4) kc_195_1394 rfl rfl ?_
      refine xi_iconst (pc' := 1397) (v := 3) kc_195_1396 rfl rfl ?_
      refine xi_iadd (pc' := 1398) (v := v111) kc_195_1397 rfl ev111 ?_
      refine xi_ialoadO (pc' := 1399) (v := a112) kc_195_1398 rfl (by decide) hov0 (xi_in (by omega) (by omega)) ea112 ?_
      refine xi_iff (pc' := 1402) kc_195_1399 rfl (xc_eq_f (X := a112.toInt) (Y := 0) rfl (by decide) (by omega)) ?_
      refine xi_iconst (pc' := 1403) (v := 1) kc_195_1402 rfl rfl ?_
      refine xi_goto (pc' := 1407) kc_195_1403 rfl ?_
      obtain ⟨u175, u176, u177, u178, u179, u180, u181, u182, u183, u184, u185, u186, u187, bu175, bu176, bu177, bu178, bu179, bu180, bu181, bu182, bu183, bu184, bu185, bu186, bu187, A188⟩ := xq_115 K170.1
      refine xi_virtual (mj := 72) (as := [.int 1, .int a110, .int 1]) (st1 := []) (lv0 := [(0, .ref 115), (1, .int 1), (2, .int a110), (3, .int 1)]) kc_195_1407 rfl rfl rfl rfl rfl A188 (Nat.le_of_ble_eq_true rfl) (hJ _ _ _ _ (by decide)) (xm_le ml_72 rfl) rfl ?_
      have zc1 : (1 : Int32).toInt = 1 := by decide
      refine mt_72_0 hJ hov1 hov2 (d := 98) (x1 := 1) (x2 := a110) (x3 := 1) K170.1 (by first | omega | decide) (by first | omega | decide) (fun r189 hh190 br189 K191 => ?_)
      have K192 := xk_tr K170 K191 rfl
      obtain ⟨u193, u194, bu193, bu194, A195⟩ := xq_0 K192.1
      have e196 : u165 = u194 := xk_eqi (q := 9) K191 rfl A173 A195 rfl rfl
      subst e196
      obtain ⟨u197, u198, u199, u200, u201, u202, u203, u204, u205, u206, u207, u208, u209, bu197, bu198, bu199, bu200, bu201, bu202, bu203, bu204, bu205, bu206, bu207, bu208, bu209, A210⟩ := xq_115 K192.1
      have e211 : u176 = u198 := xk_eqi (q := 1) K191 rfl A188 A210 rfl rfl
      subst e211
      have e212 : u186 = u208 := xk_eqi (q := 56) K191 rfl A188 A210 rfl rfl
      subst e212
      show xw J ov 100 195 (1410, [(4, .int x4), (3, .ref 167), (2, .ref 115), (1, .ref 0), (0, .ref 1000000)], [.int r189], hh190) _
      refine xi_pop (pc' := 1411) kc_195_1410 rfl rfl ?_
      refine xi_goto (pc' := 1501) kc_195_1411 rfl ?_
      obtain ⟨v213, ev213⟩ : ∃ q : Int32, x4 + 6 = q := ⟨_, rfl⟩
      have zv213 : v213.toInt = (x4.toInt + 6) := by rw [← ev213]; exact (xz_add (X := x4.toInt) (Y := 6) rfl (by decide) (by omega) (by omega)).trans (by omega)
      refine xi_iinc (pc' := 1504) (x := x4) (v := v213) (lv' := [(4, .int v213), (3, .ref 167), (2, .ref 115), (1, .ref 0), (0, .ref 1000000)]) kc_195_1501 rfl rfl ev213 rfl (xm_lt ml_195 rfl) ?_
      refine xi_goto (pc' := 23) kc_195_1504 rfl ?_
      exact kk v213 hh190 (by omega) K192
set_option maxHeartbeats 8000000 in
theorem lc_31 {J : xe_J} {ov : List (List Int32)} (hJ : ∀ d mj as h, mj ≠ xe_loff → J d mj as h = none) (hov1 : ov[1]? = some [10, 0, 0, 0, 0, 0]) (hov2 : ov[2]? = some [99, 30, 50, 50, 1, 99999]) {xs : List Int32} (hov0 : ov[0]? = some xs) {Q : Option Value → xe_H → Prop} {h : xe_H} {x4 : Int32} (hi0 : 0 ≤ x4.toInt) (hi1 : x4.toInt + 6 ≤ xs.length) (hi2 : x4.toInt ≤ 3066) (T : xt h) (kk : ∀ (i : Int32) (h' : xe_H), i.toInt = x4.toInt + 6 → xk [(0, 9), (115, 1), (85, 8), (115, 56)] h h' → xw J ov 100 195 (23, [(4, .int i), (3, .ref 167), (2, .ref 115), (1, .ref 0), (0, .ref 1000000)], [], h') Q) : xw J ov 100 195 (1414, [(4, .int x4), (3, .ref 167), (2, .ref 115), (1, .ref 0), (0, .ref 1000000)], [], h) Q := by
  have K : xk [(0, 9), (115, 1), (85, 8), (115, 56)] h h := xk_re T
  refine xi_aload_n (pc' := 1415) (x := 0) kc_195_1414 rfl rfl ?_
  refine xi_aload_n (pc' := 1416) (x := 1000000) kc_195_1415 rfl rfl ?_
  refine xi_iload (pc' := 1418) (x := x4) kc_195_1416 rfl rfl ?_
  refine xi_iconst (pc' := 1419) (v := 1) kc_195_1418 rfl rfl ?_
  obtain ⟨v1, ev1⟩ : ∃ q : Int32, x4 + 1 = q := ⟨_, rfl⟩
  have zv1 : v1.toInt = (x4.toInt + 1) := by rw [← ev1]; exact (xz_add (X := x4.toInt) (Y := 1) rfl (by decide) (by omega) (by omega)).trans (by omega)
  refine xi_iadd (pc' := 1420) (v := v1) kc_195_1419 rfl ev1 ?_
  obtain ⟨a2, ea2⟩ : ∃ q : Int32, xs.getD (Int32.toNatClampNeg v1) 0 = q := ⟨_, rfl⟩
  have ra2 := xc_rng a2
  refine xi_ialoadO (pc' := 1421) (v := a2) kc_195_1420 rfl (by decide) hov0 (xi_in (by omega) (by omega)) ea2 ?_
  refine xi_aload_n (pc' := 1422) (x := 1000000) kc_195_1421 rfl rfl ?_
  refine xi_iload (pc' := 1424) (x := x4) kc_195_1422 rfl rfl ?_
  refine xi_iconst (pc' := 1425) (v := 2) kc_195_1424 rfl rfl ?_
  obtain ⟨v3, ev3⟩ : ∃ q : Int32, x4 + 2 = q := ⟨_, rfl⟩
  have zv3 : v3.toInt = (x4.toInt + 2) := by rw [← ev3]; exact (xz_add (X := x4.toInt) (Y := 2) rfl (by decide) (by omega) (by omega)).trans (by omega)
  refine xi_iadd (pc' := 1426) (v := v3) kc_195_1425 rfl ev3 ?_
  obtain ⟨a4, ea4⟩ : ∃ q : Int32, xs.getD (Int32.toNatClampNeg v3) 0 = q := ⟨_, rfl⟩
  have ra4 := xc_rng a4
  refine xi_ialoadO (pc' := 1427) (v := a4) kc_195_1426 rfl (by decide) hov0 (xi_in (by omega) (by omega)) ea4 ?_
  obtain ⟨u5, u6, bu5, bu6, A7⟩ := xq_0 K.1
  refine xi_virtual (mj := 182) (as := [.int a2, .int a4]) (st1 := []) (lv0 := [(0, .ref 0), (1, .int a2), (2, .int a4)]) kc_195_1427 rfl rfl rfl rfl rfl A7 (Nat.le_of_ble_eq_true rfl) (hJ _ _ _ _ (by decide)) (xm_le ml_182 rfl) rfl ?_
  refine mt_182_0 hJ hov1 hov2 (d := 92) (x1 := a2) (x2 := a4) K.1 (fun r8 hh9 K10 => ?_)
  have br8 := xc_rng r8
  have K11 := xk_tr K K10 rfl
  obtain ⟨u12, u13, bu12, bu13, A14⟩ := xq_0 K11.1
  have e15 : u6 = u13 := xk_eqi (q := 9) K10 rfl A7 A14 rfl rfl
  subst e15
  show xw J ov 100 195 (1430, [(4, .int x4), (3, .ref 167), (2, .ref 115), (1, .ref 0), (0, .ref 1000000)], [.int r8], hh9) _
  refine xi_pop (pc' := 1431) kc_195_1430 rfl rfl ?_
  refine xi_aload_n (pc' := 1432) (x := 115) kc_195_1431 rfl rfl ?_
  refine xi_aload_n (pc' := 1433) (x := 1000000) kc_195_1432 rfl rfl ?_
  refine xi_iload (pc' := 1435) (x := x4) kc_195_1433 rfl rfl ?_
  refine xi_iconst (pc' := 1436) (v := 1) kc_195_1435 rfl rfl ?_
  refine xi_iadd (pc' := 1437) (v := v1) kc_195_1436 rfl ev1 ?_
  refine xi_ialoadO (pc' := 1438) (v := a2) kc_195_1437 rfl (by decide) hov0 (xi_in (by omega) (by omega)) ea2 ?_
  refine xi_aload_n (pc' := 1439) (x := 1000000) kc_195_1438 rfl rfl ?_
  refine xi_iload (pc' := 1441) (x := x4) kc_195_1439 rfl rfl ?_
  refine xi_iconst (pc' := 1442) (v := 2) kc_195_1441 rfl rfl ?_
  refine xi_iadd (pc' := 1443) (v := v3) kc_195_1442 rfl ev3 ?_
  refine xi_ialoadO (pc' := 1444) (v := a4) kc_195_1443 rfl (by decide) hov0 (xi_in (by omega) (by omega)) ea4 ?_
  obtain ⟨u16, u17, u18, u19, u20, u21, u22, u23, u24, u25, u26, u27, u28, bu16, bu17, bu18, bu19, bu20, bu21, bu22, bu23, bu24, bu25, bu26, bu27, bu28, A29⟩ := xq_115 K11.1
  refine xi_virtual (mj := 73) (as := [.int a2, .int a4]) (st1 := []) (lv0 := [(0, .ref 115), (1, .int a2), (2, .int a4)]) kc_195_1444 rfl rfl rfl rfl rfl A29 (Nat.le_of_ble_eq_true rfl) (hJ _ _ _ _ (by decide)) (xm_le ml_73 rfl) rfl ?_
  refine mt_73_0 hJ hov1 hov2 (d := 91) (x1 := a2) (x2 := a4) K11.1 (fun r30 hh31 K32 => ?_)
  have br30 := xc_rng r30
  have K33 := xk_tr K11 K32 rfl
  obtain ⟨u34, u35, bu34, bu35, A36⟩ := xq_0 K33.1
  have e37 : u6 = u35 := xk_eqi (q := 9) K32 rfl A14 A36 rfl rfl
  subst e37
  obtain ⟨u38, u39, u40, u41, u42, u43, u44, u45, u46, u47, u48, u49, u50, bu38, bu39, bu40, bu41, bu42, bu43, bu44, bu45, bu46, bu47, bu48, bu49, bu50, A51⟩ := xq_115 K33.1
  have e52 : u17 = u39 := xk_eqi (q := 1) K32 rfl A29 A51 rfl rfl
  subst e52
  have e53 : u27 = u49 := xk_eqi (q := 56) K32 rfl A29 A51 rfl rfl
  subst e53
  show xw J ov 100 195 (1447, [(4, .int x4), (3, .ref 167), (2, .ref 115), (1, .ref 0), (0, .ref 1000000)], [.int r30], hh31) _
  refine xi_pop (pc' := 1448) kc_195_1447 rfl rfl ?_
  refine xi_goto (pc' := 1501) kc_195_1448 rfl ?_
  obtain ⟨v54, ev54⟩ : ∃ q : Int32, x4 + 6 = q := ⟨_, rfl⟩
  have zv54 : v54.toInt = (x4.toInt + 6) := by rw [← ev54]; exact (xz_add (X := x4.toInt) (Y := 6) rfl (by decide) (by omega) (by omega)).trans (by omega)
  refine xi_iinc (pc' := 1504) (x := x4) (v := v54) (lv' := [(4, .int v54), (3, .ref 167), (2, .ref 115), (1, .ref 0), (0, .ref 1000000)]) kc_195_1501 rfl rfl ev54 rfl (xm_lt ml_195 rfl) ?_
  refine xi_goto (pc' := 23) kc_195_1504 rfl ?_
  exact kk v54 hh31 (by omega) K33
set_option maxHeartbeats 8000000 in
theorem lc_32 {J : xe_J} {ov : List (List Int32)} (hJ : ∀ d mj as h, mj ≠ xe_loff → J d mj as h = none) (hov1 : ov[1]? = some [10, 0, 0, 0, 0, 0]) (hov2 : ov[2]? = some [99, 30, 50, 50, 1, 99999]) {xs : List Int32} (hov0 : ov[0]? = some xs) {Q : Option Value → xe_H → Prop} {h : xe_H} {x4 : Int32} (hi0 : 0 ≤ x4.toInt) (hi1 : x4.toInt + 6 ≤ xs.length) (hi2 : x4.toInt ≤ 3066) (T : xt h) (kk : ∀ (i : Int32) (h' : xe_H), i.toInt = x4.toInt + 6 → xk [(0, 9), (115, 1), (85, 8), (115, 56)] h h' → xw J ov 100 195 (23, [(4, .int i), (3, .ref 167), (2, .ref 115), (1, .ref 0), (0, .ref 1000000)], [], h') Q) : xw J ov 100 195 (1451, [(4, .int x4), (3, .ref 167), (2, .ref 115), (1, .ref 0), (0, .ref 1000000)], [], h) Q := by
  have K : xk [(0, 9), (115, 1), (85, 8), (115, 56)] h h := xk_re T
  refine xi_aload_n (pc' := 1452) (x := 0) kc_195_1451 rfl rfl ?_
  refine xi_aload_n (pc' := 1453) (x := 1000000) kc_195_1452 rfl rfl ?_
  refine xi_iload (pc' := 1455) (x := x4) kc_195_1453 rfl rfl ?_
  refine xi_iconst (pc' := 1456) (v := 1) kc_195_1455 rfl rfl ?_
  obtain ⟨v1, ev1⟩ : ∃ q : Int32, x4 + 1 = q := ⟨_, rfl⟩
  have zv1 : v1.toInt = (x4.toInt + 1) := by rw [← ev1]; exact (xz_add (X := x4.toInt) (Y := 1) rfl (by decide) (by omega) (by omega)).trans (by omega)
  refine xi_iadd (pc' := 1457) (v := v1) kc_195_1456 rfl ev1 ?_
  obtain ⟨a2, ea2⟩ : ∃ q : Int32, xs.getD (Int32.toNatClampNeg v1) 0 = q := ⟨_, rfl⟩
  have ra2 := xc_rng a2
  refine xi_ialoadO (pc' := 1458) (v := a2) kc_195_1457 rfl (by decide) hov0 (xi_in (by omega) (by omega)) ea2 ?_
  obtain ⟨u3, u4, bu3, bu4, A5⟩ := xq_0 K.1
  refine xi_virtual (mj := 188) (as := [.int a2]) (st1 := []) (lv0 := [(0, .ref 0), (1, .int a2)]) kc_195_1458 rfl rfl rfl rfl rfl A5 (Nat.le_of_ble_eq_true rfl) (hJ _ _ _ _ (by decide)) (xm_le ml_188 rfl) rfl ?_
  refine mt_188_0 hJ hov1 hov2 (d := 97) (x1 := a2) K.1 (fun r6 hh7 br6 K8 => ?_)
  have K9 := xk_tr K K8 rfl
  obtain ⟨u10, u11, bu10, bu11, A12⟩ := xq_0 K9.1
  have e13 : u4 = u11 := xk_eqi (q := 9) K8 rfl A5 A12 rfl rfl
  subst e13
  show xw J ov 100 195 (1461, [(4, .int x4), (3, .ref 167), (2, .ref 115), (1, .ref 0), (0, .ref 1000000)], [.int r6], hh7) _
  refine xi_pop (pc' := 1462) kc_195_1461 rfl rfl ?_
  refine xi_aload_n (pc' := 1463) (x := 115) kc_195_1462 rfl rfl ?_
  refine xi_aload_n (pc' := 1464) (x := 1000000) kc_195_1463 rfl rfl ?_
  refine xi_iload (pc' := 1466) (x := x4) kc_195_1464 rfl rfl ?_
  refine xi_iconst (pc' := 1467) (v := 1) kc_195_1466 rfl rfl ?_
  refine xi_iadd (pc' := 1468) (v := v1) kc_195_1467 rfl ev1 ?_
  refine xi_ialoadO (pc' := 1469) (v := a2) kc_195_1468 rfl (by decide) hov0 (xi_in (by omega) (by omega)) ea2 ?_
  obtain ⟨u14, u15, u16, u17, u18, u19, u20, u21, u22, u23, u24, u25, u26, bu14, bu15, bu16, bu17, bu18, bu19, bu20, bu21, bu22, bu23, bu24, bu25, bu26, A27⟩ := xq_115 K9.1
  refine xi_virtual (mj := 74) (as := [.int a2]) (st1 := []) (lv0 := [(0, .ref 115), (1, .int a2)]) kc_195_1469 rfl rfl rfl rfl rfl A27 (Nat.le_of_ble_eq_true rfl) (hJ _ _ _ _ (by decide)) (xm_le ml_74 rfl) rfl ?_
  refine mt_74_0 hJ hov1 hov2 (d := 98) (x1 := a2) K9.1 (fun r28 hh29 br28 K30 => ?_)
  have K31 := xk_tr K9 K30 rfl
  obtain ⟨u32, u33, bu32, bu33, A34⟩ := xq_0 K31.1
  have e35 : u4 = u33 := xk_eqi (q := 9) K30 rfl A12 A34 rfl rfl
  subst e35
  obtain ⟨u36, u37, u38, u39, u40, u41, u42, u43, u44, u45, u46, u47, u48, bu36, bu37, bu38, bu39, bu40, bu41, bu42, bu43, bu44, bu45, bu46, bu47, bu48, A49⟩ := xq_115 K31.1
  have e50 : u15 = u37 := xk_eqi (q := 1) K30 rfl A27 A49 rfl rfl
  subst e50
  have e51 : u25 = u47 := xk_eqi (q := 56) K30 rfl A27 A49 rfl rfl
  subst e51
  show xw J ov 100 195 (1472, [(4, .int x4), (3, .ref 167), (2, .ref 115), (1, .ref 0), (0, .ref 1000000)], [.int r28], hh29) _
  refine xi_pop (pc' := 1473) kc_195_1472 rfl rfl ?_
  refine xi_goto (pc' := 1501) kc_195_1473 rfl ?_
  obtain ⟨v52, ev52⟩ : ∃ q : Int32, x4 + 6 = q := ⟨_, rfl⟩
  have zv52 : v52.toInt = (x4.toInt + 6) := by rw [← ev52]; exact (xz_add (X := x4.toInt) (Y := 6) rfl (by decide) (by omega) (by omega)).trans (by omega)
  refine xi_iinc (pc' := 1504) (x := x4) (v := v52) (lv' := [(4, .int v52), (3, .ref 167), (2, .ref 115), (1, .ref 0), (0, .ref 1000000)]) kc_195_1501 rfl rfl ev52 rfl (xm_lt ml_195 rfl) ?_
  refine xi_goto (pc' := 23) kc_195_1504 rfl ?_
  exact kk v52 hh29 (by omega) K31
set_option maxHeartbeats 8000000 in
theorem lc_33 {J : xe_J} {ov : List (List Int32)} (hJ : ∀ d mj as h, mj ≠ xe_loff → J d mj as h = none) (hov1 : ov[1]? = some [10, 0, 0, 0, 0, 0]) (hov2 : ov[2]? = some [99, 30, 50, 50, 1, 99999]) {xs : List Int32} (hov0 : ov[0]? = some xs) {Q : Option Value → xe_H → Prop} {h : xe_H} {x4 : Int32} (hi0 : 0 ≤ x4.toInt) (hi1 : x4.toInt + 6 ≤ xs.length) (hi2 : x4.toInt ≤ 3066) (T : xt h) (kk : ∀ (i : Int32) (h' : xe_H), i.toInt = x4.toInt + 6 → xk [(0, 9), (115, 1), (85, 8), (115, 56)] h h' → xw J ov 100 195 (23, [(4, .int i), (3, .ref 167), (2, .ref 115), (1, .ref 0), (0, .ref 1000000)], [], h') Q) : xw J ov 100 195 (1476, [(4, .int x4), (3, .ref 167), (2, .ref 115), (1, .ref 0), (0, .ref 1000000)], [], h) Q := by
  have K : xk [(0, 9), (115, 1), (85, 8), (115, 56)] h h := xk_re T
  refine xi_aload_n (pc' := 1477) (x := 0) kc_195_1476 rfl rfl ?_
  refine xi_aload_n (pc' := 1478) (x := 1000000) kc_195_1477 rfl rfl ?_
  refine xi_iload (pc' := 1480) (x := x4) kc_195_1478 rfl rfl ?_
  refine xi_iconst (pc' := 1481) (v := 1) kc_195_1480 rfl rfl ?_
  obtain ⟨v1, ev1⟩ : ∃ q : Int32, x4 + 1 = q := ⟨_, rfl⟩
  have zv1 : v1.toInt = (x4.toInt + 1) := by rw [← ev1]; exact (xz_add (X := x4.toInt) (Y := 1) rfl (by decide) (by omega) (by omega)).trans (by omega)
  refine xi_iadd (pc' := 1482) (v := v1) kc_195_1481 rfl ev1 ?_
  obtain ⟨a2, ea2⟩ : ∃ q : Int32, xs.getD (Int32.toNatClampNeg v1) 0 = q := ⟨_, rfl⟩
  have ra2 := xc_rng a2
  refine xi_ialoadO (pc' := 1483) (v := a2) kc_195_1482 rfl (by decide) hov0 (xi_in (by omega) (by omega)) ea2 ?_
  obtain ⟨u3, u4, bu3, bu4, A5⟩ := xq_0 K.1
  refine xi_virtual (mj := 190) (as := [.int a2]) (st1 := []) (lv0 := [(0, .ref 0), (1, .int a2)]) kc_195_1483 rfl rfl rfl rfl rfl A5 (Nat.le_of_ble_eq_true rfl) (hJ _ _ _ _ (by decide)) (xm_le ml_190 rfl) rfl ?_
  refine mt_190_0 hJ hov1 hov2 (d := 96) (x1 := a2) K.1 (fun r6 hh7 K8 => ?_)
  have br6 := xc_rng r6
  have K9 := xk_tr K K8 rfl
  obtain ⟨u10, u11, bu10, bu11, A12⟩ := xq_0 K9.1
  have e13 : u4 = u11 := xk_eqi (q := 9) K8 rfl A5 A12 rfl rfl
  subst e13
  show xw J ov 100 195 (1486, [(4, .int x4), (3, .ref 167), (2, .ref 115), (1, .ref 0), (0, .ref 1000000)], [.int r6], hh7) _
  refine xi_pop (pc' := 1487) kc_195_1486 rfl rfl ?_
  refine xi_aload_n (pc' := 1488) (x := 115) kc_195_1487 rfl rfl ?_
  refine xi_aload_n (pc' := 1489) (x := 1000000) kc_195_1488 rfl rfl ?_
  refine xi_iload (pc' := 1491) (x := x4) kc_195_1489 rfl rfl ?_
  refine xi_iconst (pc' := 1492) (v := 1) kc_195_1491 rfl rfl ?_
  refine xi_iadd (pc' := 1493) (v := v1) kc_195_1492 rfl ev1 ?_
  refine xi_ialoadO (pc' := 1494) (v := a2) kc_195_1493 rfl (by decide) hov0 (xi_in (by omega) (by omega)) ea2 ?_
  obtain ⟨u14, u15, u16, u17, u18, u19, u20, u21, u22, u23, u24, u25, u26, bu14, bu15, bu16, bu17, bu18, bu19, bu20, bu21, bu22, bu23, bu24, bu25, bu26, A27⟩ := xq_115 K9.1
  refine xi_virtual (mj := 75) (as := [.int a2]) (st1 := []) (lv0 := [(0, .ref 115), (1, .int a2)]) kc_195_1494 rfl rfl rfl rfl rfl A27 (Nat.le_of_ble_eq_true rfl) (hJ _ _ _ _ (by decide)) (xm_le ml_75 rfl) rfl ?_
  refine mt_75_0 hJ hov1 hov2 (d := 97) (x1 := a2) K9.1 (fun r28 hh29 K30 => ?_)
  have br28 := xc_rng r28
  have K31 := xk_tr K9 K30 rfl
  obtain ⟨u32, u33, bu32, bu33, A34⟩ := xq_0 K31.1
  have e35 : u4 = u33 := xk_eqi (q := 9) K30 rfl A12 A34 rfl rfl
  subst e35
  obtain ⟨u36, u37, u38, u39, u40, u41, u42, u43, u44, u45, u46, u47, u48, bu36, bu37, bu38, bu39, bu40, bu41, bu42, bu43, bu44, bu45, bu46, bu47, bu48, A49⟩ := xq_115 K31.1
  have e50 : u15 = u37 := xk_eqi (q := 1) K30 rfl A27 A49 rfl rfl
  subst e50
  have e51 : u25 = u47 := xk_eqi (q := 56) K30 rfl A27 A49 rfl rfl
  subst e51
  show xw J ov 100 195 (1497, [(4, .int x4), (3, .ref 167), (2, .ref 115), (1, .ref 0), (0, .ref 1000000)], [.int r28], hh29) _
  refine xi_pop (pc' := 1498) kc_195_1497 rfl rfl ?_
  refine xi_goto (pc' := 1501) kc_195_1498 rfl ?_
  obtain ⟨v52, ev52⟩ : ∃ q : Int32, x4 + 6 = q := ⟨_, rfl⟩
  have zv52 : v52.toInt = (x4.toInt + 6) := by rw [← ev52]; exact (xz_add (X := x4.toInt) (Y := 6) rfl (by decide) (by omega) (by omega)).trans (by omega)
  refine xi_iinc (pc' := 1504) (x := x4) (v := v52) (lv' := [(4, .int v52), (3, .ref 167), (2, .ref 115), (1, .ref 0), (0, .ref 1000000)]) kc_195_1501 rfl rfl ev52 rfl (xm_lt ml_195 rfl) ?_
  refine xi_goto (pc' := 23) kc_195_1504 rfl ?_
  exact kk v52 hh29 (by omega) K31
