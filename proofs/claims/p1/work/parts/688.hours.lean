/-! Stages: all cells but those of W as the constructors left them -/
def xg (W : List Nat) (h : xe_H) : Prop := ∀ (k : Nat) (x : xe_E), List.elem k W = false → hL[k]? = some x → h[k]? = some x
theorem xg_of {W : List Nat} {h : xe_H} (F : xf_fr h) : xg W h := fun k x _ e => F k x e
theorem xg_keep {W : List Nat} {h h' : xe_H} {a : Nat} {x : xe_E} (G : xg W h) (e : xh h a x h') (ha : hL[a]? = some x) : xg W h' := fun k y hk hy => by
  by_cases hka : k = a
  · subst hka
    exact e.1.trans (ha.symm.trans hy)
  · exact (e.2.1 k hka).trans (G k y hk hy)
theorem xg_skip {W : List Nat} {h h' : xe_H} {a : Nat} {x : xe_E} (G : xg W h) (e : xh h a x h') (ha : List.elem a W = true) : xg W h' := fun k y hk hy => by
  refine (e.2.1 k (fun hka => ?_)).trans (G k y hk hy)
  subst hka
  rw [hk] at ha
  cases ha
theorem xg_more {W W' : List Nat} {h : xe_H} (G : xg W h) (hw : W.all (fun a => List.elem a W') = true) : xg W' h := fun k y hk hy => by
  refine G k y ?_ hy
  cases hq : List.elem k W with
  | false => rfl
  | true =>
    have := List.all_eq_true.mp hw k (by simpa using hq)
    rw [hk] at this
    cases this
theorem xz_xor {x y : Int32} (hx : 0 ≤ x.toInt) (hy : 0 ≤ y.toInt) : 0 ≤ (x ^^^ y).toInt := by
  have h : (x ^^^ y).toBitVec.msb = false := by
    rw [Int32.toBitVec_xor, BitVec.msb_xor, BitVec.msb_eq_toInt, BitVec.msb_eq_toInt]
    have e1 : decide (x.toBitVec.toInt < 0) = false := decide_eq_false (Int.not_lt.mpr hx)
    have e2 : decide (y.toBitVec.toInt < 0) = false := decide_eq_false (Int.not_lt.mpr hy)
    rw [e1, e2]
    rfl
  rw [BitVec.msb_eq_toInt] at h
  exact Int.not_lt.mp (of_decide_eq_false h)
theorem xa_sr {n : Nat} {i : Nat} {v : Int32} : (List.replicate n v).set i v = List.replicate n v := by
  apply List.ext_getElem?
  intro j
  by_cases hj : i = j
  · subst hj
    by_cases hi : i < n
    · rw [List.getElem?_set_self (by rw [List.length_replicate]; exact hi), List.getElem?_replicate, if_pos hi]
    · rw [List.getElem?_eq_none (by rw [List.length_set, List.length_replicate]; omega), List.getElem?_eq_none (by rw [List.length_replicate]; omega)]
  · rw [List.getElem?_set_ne hj]

set_option maxHeartbeats 8000000 in
set_option maxRecDepth 20000 in
theorem ha_air0 {J : xe_J} {ov : List (List Int32)} {d N Z : Nat} (hJ : ∀ d mj as h, mj ≠ xe_loff → J d mj as h = none) {Q : Option Value → xe_H → Prop} {hr w0 w1 w2 w3 w4 w5 : Int32} {h : xe_H} (h_0 : 0 ≤ w0.toInt) (h_1 : 0 ≤ w1.toInt) (h_2 : 0 ≤ w2.toInt) (h_3 : 0 ≤ w3.toInt) (h_4 : 0 ≤ w4.toInt) (h_5 : 0 ≤ w5.toInt) (h_6 : w0.toInt ≤ 880) (h_7 : w1.toInt ≤ 880) (h_8 : w2.toInt ≤ 880) (h_9 : w3.toInt ≤ 880) (h_10 : w4.toInt ≤ 880) (h_11 : w5.toInt ≤ 880) (h_12 : 0 ≤ hr.toInt) (h_13 : hr.toInt ≤ 599) (G0 : xg [0, 64] h) (A0_0 : h[0]? = some (.inr (0, [.ref 1, .ref 63, .ref 66, .ref 75, .ref 80, .ref 85, .ref 93, .ref 94, .int 0, .int hr]))) (A0_64 : h[64]? = some (.inl (0, .inl ([w0, w1, w2, w3, w4, w5])))) (n0 : h.length = N) (z0 : xe_sz h = Z) (kk : ∀ (w0_ w1_ w2_ w3_ w4_ w5_ : Int32) (h1 : xe_H), 0 ≤ w0_.toInt → 0 ≤ w1_.toInt → 0 ≤ w2_.toInt → 0 ≤ w3_.toInt → 0 ≤ w4_.toInt → 0 ≤ w5_.toInt → w0_.toInt ≤ 880 → w1_.toInt ≤ 880 → w2_.toInt ≤ 880 → w3_.toInt ≤ 880 → w4_.toInt ≤ 880 → w5_.toInt ≤ 880 → xg [0, 64] h1 → h1[0]? = some (.inr (0, [.ref 1, .ref 63, .ref 66, .ref 75, .ref 80, .ref 85, .ref 93, .ref 94, .int 0, .int hr])) → h1[64]? = some (.inl (0, .inl ([w0_, w1_, w2_, w3_, w4_, w5_]))) → h1.length = N → xe_sz h1 = Z → Q (none) h1) : xw J ov (d + 4) 129 (0, [(0, .ref 1), (1, .ref 63), (2, .int 0), (3, .int hr), (4, .int 5)], [], h) Q := by
  refine xi_aload_n (pc' := 1) (x := 1) kc_129_0 rfl rfl ?_
  refine xi_getfield (pc' := 4) (v := .ref 2) kc_129_1 rfl rfl rfl (G0 1 _ rfl hl_1) rfl ?_
  refine xi_iload_n (pc' := 5) (x := 0) kc_129_4 rfl rfl ?_
  refine xi_aaload (pc' := 6) (b := 11) kc_129_5 rfl (G0 2 _ rfl hl_2) rfl (xi_in (n := 6) (by decide) (by decide)) rfl ?_
  refine xi_astore (pc' := 8) (lv' := [(5, .ref 11), (0, .ref 1), (1, .ref 63), (2, .int 0), (3, .int hr), (4, .int 5)]) kc_129_6 rfl rfl (xm_lt ml_129 rfl) ?_
  refine xi_aload_n (pc' := 9) (x := 63) kc_129_8 rfl rfl ?_
  refine xi_iload_n (pc' := 10) (x := 0) kc_129_9 rfl rfl ?_
  refine xi_aload (pc' := 12) (x := 11) kc_129_10 rfl rfl ?_
  refine xi_getfield (pc' := 15) (v := .ref 13) kc_129_12 rfl rfl rfl (G0 11 _ rfl hl_11) rfl ?_
  refine xi_iload_n (pc' := 16) (x := hr) kc_129_15 rfl rfl ?_
  refine xi_bipush (pc' := 18) (v := 24) kc_129_16 rfl rfl ?_
  refine xi_static (mj := 3) (as := [.int hr, .int 24]) (st1 := [.ref 13, .int 0, .ref 63]) (lv0 := [(0, .int hr), (1, .int 24)]) kc_129_18 rfl rfl (Nat.le_of_ble_eq_true rfl) rfl rfl (Nat.le_of_ble_eq_true rfl) (hJ _ _ _ _ (by decide)) (xm_le ml_3 rfl) rfl ?_
  refine xi_iload_n (pc' := 1) (x := hr) kc_3_0 rfl rfl ?_
  refine xi_iload_n (pc' := 2) (x := 24) kc_3_1 rfl rfl ?_
  obtain ⟨v1, ev1⟩ : ∃ q : Int32, hr - hr / 24 * 24 = q := ⟨_, rfl⟩
  have dv1 : 0 ≤ v1.toInt ∧ v1.toInt < 24 := by rw [← ev1]; exact xz_rem (X := hr.toInt) (Y := 24) rfl (by decide) (by omega) (by decide)
  refine xi_irem (pc' := 3) (v := v1) kc_3_2 rfl ev1 (by decide) ?_
  refine xi_istore_n (pc' := 4) (lv' := [(2, .int v1), (0, .int hr), (1, .int 24)]) kc_3_3 rfl rfl (xm_lt ml_3 rfl) ?_
  refine xi_iload_n (pc' := 5) (x := hr) kc_3_4 rfl rfl ?_
  refine xi_iload_n (pc' := 6) (x := 24) kc_3_5 rfl rfl ?_
  obtain ⟨v2, ev2⟩ : ∃ q : Int32, hr ^^^ 24 = q := ⟨_, rfl⟩
  have rv2 := xc_rng v2
  have bv2 : 0 ≤ v2.toInt := by rw [← ev2]; exact xz_xor (by first | omega | decide) (by first | omega | decide)
  refine xi_ixor (pc' := 7) (v := v2) kc_3_6 rfl ev2 ?_
  refine xi_ift (pc' := 18) kc_3_7 rfl (xc_ge_t (X := v2.toInt) (Y := 0) rfl (by decide) (by omega)) ?_
  refine xi_iload_n (pc' := 19) (x := v1) kc_3_18 rfl rfl ?_
  refine xi_ireturn kc_3_19 mr_3 rfl ?_
  show xw J ov (d + 4) 129 (21, [(5, .ref 11), (0, .ref 1), (1, .ref 63), (2, .int 0), (3, .int hr), (4, .int 5)], [.int v1, .ref 13, .int 0, .ref 63], h) _
  refine xi_iaload (pc' := 22) (v := 0) kc_129_21 rfl (G0 13 _ rfl hl_13) (by decide) rfl (xi_in (by omega) (by simp only [List.length_replicate]; omega)) (xa_rep (by omega) (by omega)) ?_
  refine xi_virtual (mj := 128) (as := [.int 0, .int 0]) (st1 := []) (lv0 := [(0, .ref 63), (1, .int 0), (2, .int 0)]) kc_129_22 rfl rfl rfl rfl rfl (G0 63 _ rfl hl_63) (Nat.le_of_ble_eq_true rfl) (hJ _ _ _ _ (by decide)) (xm_le ml_128 rfl) rfl ?_
  refine xi_iload_n (pc' := 1) (x := 0) kc_128_0 rfl rfl ?_
  refine xi_iff (pc' := 4) kc_128_1 rfl rfl ?_
  refine xi_iload_n (pc' := 5) (x := 0) kc_128_4 rfl rfl ?_
  refine xi_aload_n (pc' := 6) (x := 63) kc_128_5 rfl rfl ?_
  refine xi_getfield (pc' := 9) (v := .ref 64) kc_128_6 rfl rfl rfl (G0 63 _ rfl hl_63) rfl ?_
  refine xi_arraylength (pc' := 10) (n := 6) (v := 6) kc_128_9 rfl (xl_lenI (by decide) (by decide) A0_64 (by simp only [List.length_replicate, List.length_cons, List.length_nil])) rfl ?_
  refine xi_cmf (pc' := 13) kc_128_10 rfl rfl ?_
  refine xi_aload_n (pc' := 14) (x := 63) kc_128_13 rfl rfl ?_
  refine xi_getfield (pc' := 17) (v := .ref 64) kc_128_14 rfl rfl rfl (G0 63 _ rfl hl_63) rfl ?_
  refine xi_iload_n (pc' := 18) (x := 0) kc_128_17 rfl rfl ?_
  refine xi_iaload (pc' := 19) (v := w0) kc_128_18 rfl A0_64 (by decide) rfl (xi_in (n := 6) (by decide) (by decide)) rfl ?_
  refine xi_iload_n (pc' := 20) (x := 0) kc_128_19 rfl rfl ?_
  obtain ⟨v3, ev3⟩ : ∃ q : Int32, w0 + 0 = q := ⟨_, rfl⟩
  have zv3 : v3.toInt = w0.toInt := by rw [← ev3]; exact (xz_add (X := w0.toInt) (Y := 0) rfl (by decide) (by omega) (by omega)).trans (by omega)
  refine xi_iadd (pc' := 21) (v := v3) kc_128_20 rfl ev3 ?_
  refine xi_istore_n (pc' := 22) (lv' := [(3, .int v3), (0, .ref 63), (1, .int 0), (2, .int 0)]) kc_128_21 rfl rfl (xm_lt ml_128 rfl) ?_
  refine xi_aload_n (pc' := 23) (x := 63) kc_128_22 rfl rfl ?_
  refine xi_getfield (pc' := 26) (v := .ref 64) kc_128_23 rfl rfl rfl (G0 63 _ rfl hl_63) rfl ?_
  refine xi_iload_n (pc' := 27) (x := 0) kc_128_26 rfl rfl ?_
  refine xi_iload_n (pc' := 28) (x := v3) kc_128_27 rfl rfl ?_
  refine xi_ldc (pc' := 30) (v := 99999) kc_128_28 rfl rfl ?_
  refine xi_cmt (pc' := 38) kc_128_30 rfl (xc_le_t (X := w0.toInt) (Y := 99999) zv3 (by decide) (by omega)) ?_
  refine xi_iload_n (pc' := 39) (x := v3) kc_128_38 rfl rfl ?_
  refine xi_iastore (pc' := 40) (x' := [v3, w1, w2, w3, w4, w5]) kc_128_39 rfl A0_64 rfl (xi_in (n := 6) (by decide) (by decide)) rfl (fun hh1 eh1 => ?_)
  have G1 := xg_skip G0 eh1 rfl
  have A1_0 := (eh1.2.1 0 (by decide)).trans A0_0
  have A1_64 := eh1.1
  have n1 := eh1.2.2.1.trans n0
  have z1 := eh1.2.2.2.trans z0
  clear G0 n0 z0 A0_0 A0_64 eh1
  refine xi_return kc_128_40 mr_128 ?_
  show xw J ov (d + 4) 129 (25, [(5, .ref 11), (0, .ref 1), (1, .ref 63), (2, .int 0), (3, .int hr), (4, .int 5)], [], hh1) _
  refine xi_aload_n (pc' := 26) (x := 63) kc_129_25 rfl rfl ?_
  refine xi_getfield (pc' := 29) (v := .ref 64) kc_129_26 rfl rfl rfl (G1 63 _ rfl hl_63) rfl ?_
  refine xi_iload_n (pc' := 30) (x := 0) kc_129_29 rfl rfl ?_
  refine xi_iaload (pc' := 31) (v := v3) kc_129_30 rfl A1_64 (by decide) rfl (xi_in (n := 6) (by decide) (by decide)) rfl ?_
  refine xi_istore (pc' := 33) (lv' := [(6, .int v3), (5, .ref 11), (0, .ref 1), (1, .ref 63), (2, .int 0), (3, .int hr), (4, .int 5)]) kc_129_31 rfl rfl (xm_lt ml_129 rfl) ?_
  refine xi_aload (pc' := 35) (x := 11) kc_129_33 rfl rfl ?_
  refine xi_getfield (pc' := 38) (v := .ref 12) kc_129_35 rfl rfl rfl (G1 11 _ rfl hl_11) rfl ?_
  refine xi_iconst (pc' := 39) (v := 0) kc_129_38 rfl rfl ?_
  refine xi_iaload (pc' := 40) (v := 40) kc_129_39 rfl (G1 12 _ rfl hl_12) (by decide) rfl (xi_in (n := 5) (by decide) (by decide)) rfl ?_
  refine xi_istore (pc' := 42) (lv' := [(7, .int 40), (6, .int v3), (5, .ref 11), (0, .ref 1), (1, .ref 63), (2, .int 0), (3, .int hr), (4, .int 5)]) kc_129_40 rfl rfl (xm_lt ml_129 rfl) ?_
  refine xi_iload (pc' := 44) (x := 40) kc_129_42 rfl rfl ?_
  refine xi_iload (pc' := 46) (x := 5) kc_129_44 rfl rfl ?_
  refine xi_static (mj := 103) (as := [.int 5]) (st1 := [.int 40]) (lv0 := [(0, .int 5)]) kc_129_46 rfl rfl (Nat.le_of_ble_eq_true rfl) rfl rfl (Nat.le_of_ble_eq_true rfl) (hJ _ _ _ _ (by decide)) (xm_le ml_103 rfl) rfl ?_
  refine xi_iload_n (pc' := 1) (x := 5) kc_103_0 rfl rfl ?_
  refine xi_iff (pc' := 4) kc_103_1 rfl rfl ?_
  refine xi_iconst (pc' := 5) (v := 5) kc_103_4 rfl rfl ?_
  refine xi_iload_n (pc' := 6) (x := 5) kc_103_5 rfl rfl ?_
  refine xi_iconst (pc' := 7) (v := 2) kc_103_6 rfl rfl ?_
  refine xi_idiv (pc' := 8) (v := 2) kc_103_7 rfl rfl (by decide) ?_
  refine xi_iadd (pc' := 9) (v := 7) kc_103_8 rfl rfl ?_
  refine xi_iload_n (pc' := 10) (x := 5) kc_103_9 rfl rfl ?_
  refine xi_iload_n (pc' := 11) (x := 5) kc_103_10 rfl rfl ?_
  refine xi_imul (pc' := 12) (v := 25) kc_103_11 rfl rfl ?_
  refine xi_bipush (pc' := 14) (v := 40) kc_103_12 rfl rfl ?_
  refine xi_idiv (pc' := 15) (v := 0) kc_103_14 rfl rfl (by decide) ?_
  refine xi_iadd (pc' := 16) (v := 7) kc_103_15 rfl rfl ?_
  refine xi_ireturn kc_103_16 mr_103 rfl ?_
  show xw J ov (d + 4) 129 (49, [(7, .int 40), (6, .int v3), (5, .ref 11), (0, .ref 1), (1, .ref 63), (2, .int 0), (3, .int hr), (4, .int 5)], [.int 7, .int 40], hh1) _
  refine xi_imul (pc' := 50) (v := 280) kc_129_49 rfl rfl ?_
  refine xi_iconst (pc' := 51) (v := 2) kc_129_50 rfl rfl ?_
  refine xi_idiv (pc' := 52) (v := 140) kc_129_51 rfl rfl (by decide) ?_
  refine xi_istore (pc' := 54) (lv' := [(8, .int 140), (7, .int 40), (6, .int v3), (5, .ref 11), (0, .ref 1), (1, .ref 63), (2, .int 0), (3, .int hr), (4, .int 5)]) kc_129_52 rfl rfl (xm_lt ml_129 rfl) ?_
  refine xi_iload (pc' := 56) (x := v3) kc_129_54 rfl rfl ?_
  refine xi_iload (pc' := 58) (x := v3) kc_129_56 rfl rfl ?_
  refine xi_iload (pc' := 60) (x := 140) kc_129_58 rfl rfl ?_
  obtain ⟨v4, ev4⟩ : ∃ q : Int32, v3 - 140 = q := ⟨_, rfl⟩
  have zv4 : v4.toInt = (w0.toInt + (-140)) := by rw [← ev4]; exact (xz_sub (X := w0.toInt) (Y := 140) zv3 (by decide) (by omega) (by omega)).trans (by omega)
  refine xi_isub (pc' := 61) (v := v4) kc_129_60 rfl ev4 ?_
  refine xi_aload (pc' := 63) (x := 11) kc_129_61 rfl rfl ?_
  refine xi_virtual (mj := 130) (as := []) (st1 := [.int v4, .int v3]) (lv0 := [(0, .ref 11)]) kc_129_63 rfl rfl rfl rfl rfl (G1 11 _ rfl hl_11) (Nat.le_of_ble_eq_true rfl) (hJ _ _ _ _ (by decide)) (xm_le ml_130 rfl) rfl ?_
  refine xi_aload_n (pc' := 1) (x := 11) kc_130_0 rfl rfl ?_
  refine xi_getfield (pc' := 4) (v := .ref 12) kc_130_1 rfl rfl rfl (G1 11 _ rfl hl_11) rfl ?_
  refine xi_iconst (pc' := 5) (v := 2) kc_130_4 rfl rfl ?_
  refine xi_iaload (pc' := 6) (v := 10) kc_130_5 rfl (G1 12 _ rfl hl_12) (by decide) rfl (xi_in (n := 5) (by decide) (by decide)) rfl ?_
  refine xi_aload_n (pc' := 7) (x := 11) kc_130_6 rfl rfl ?_
  refine xi_getfield (pc' := 10) (v := .ref 12) kc_130_7 rfl rfl rfl (G1 11 _ rfl hl_11) rfl ?_
  refine xi_iconst (pc' := 11) (v := 4) kc_130_10 rfl rfl ?_
  refine xi_iaload (pc' := 12) (v := 0) kc_130_11 rfl (G1 12 _ rfl hl_12) (by decide) rfl (xi_in (n := 5) (by decide) (by decide)) rfl ?_
  refine xi_iconst (pc' := 13) (v := 1) kc_130_12 rfl rfl ?_
  refine xi_cmt (pc' := 25) kc_130_13 rfl rfl ?_
  refine xi_iconst (pc' := 26) (v := 0) kc_130_25 rfl rfl ?_
  refine xi_iadd (pc' := 27) (v := 10) kc_130_26 rfl rfl ?_
  refine xi_ireturn kc_130_27 mr_130 rfl ?_
  show xw J ov (d + 4) 129 (66, [(8, .int 140), (7, .int 40), (6, .int v3), (5, .ref 11), (0, .ref 1), (1, .ref 63), (2, .int 0), (3, .int hr), (4, .int 5)], [.int 10, .int v4, .int v3], hh1) _
  obtain ⟨v5, ev5⟩ : ∃ q : Int32, v4 * 10 = q := ⟨_, rfl⟩
  have zv5 : v5.toInt = ((10) * w0.toInt + (-1400)) := by rw [← ev5]; exact (xz_mul (X := (w0.toInt + (-140))) (Y := 10) zv4 (by decide) (by omega) (by omega)).trans (by omega)
  refine xi_imul (pc' := 67) (v := v5) kc_129_66 rfl ev5 ?_
  refine xi_bipush (pc' := 69) (v := 100) kc_129_67 rfl rfl ?_
  obtain ⟨v6, ev6⟩ : ∃ q : Int32, v5 / 100 = q := ⟨_, rfl⟩
  have dv6 : 100 * v6.toInt ≤ ((10) * w0.toInt + (-1400)) + 99 ∧ ((10) * w0.toInt + (-1400)) ≤ 100 * v6.toInt + 99 := by rw [← ev6]; exact xz_div (X := ((10) * w0.toInt + (-1400))) (Y := 100) zv5 (by decide) (by decide)
  have bv6 : -15 ≤ v6.toInt ∧ v6.toInt ≤ 75 := by omega
  refine xi_idiv (pc' := 70) (v := v6) kc_129_69 rfl ev6 (by decide) ?_
  obtain ⟨v7, ev7⟩ : ∃ q : Int32, v3 - v6 = q := ⟨_, rfl⟩
  have zv7 : v7.toInt = (w0.toInt + (-1) * v6.toInt) := by rw [← ev7]; exact (xz_sub (X := w0.toInt) (Y := v6.toInt) zv3 rfl (by omega) (by omega)).trans (by omega)
  have bv7 : 0 ≤ v7.toInt ∧ v7.toInt ≤ 880 := by omega
  refine xi_isub (pc' := 71) (v := v7) kc_129_70 rfl ev7 ?_
  refine xi_istore (pc' := 73) (lv' := [(6, .int v7), (8, .int 140), (7, .int 40), (5, .ref 11), (0, .ref 1), (1, .ref 63), (2, .int 0), (3, .int hr), (4, .int 5)]) kc_129_71 rfl rfl (xm_lt ml_129 rfl) ?_
  refine xi_aload (pc' := 75) (x := 11) kc_129_73 rfl rfl ?_
  refine xi_getfield (pc' := 78) (v := .ref 12) kc_129_75 rfl rfl rfl (G1 11 _ rfl hl_11) rfl ?_
  refine xi_iconst (pc' := 79) (v := 1) kc_129_78 rfl rfl ?_
  refine xi_iaload (pc' := 80) (v := 18) kc_129_79 rfl (G1 12 _ rfl hl_12) (by decide) rfl (xi_in (n := 5) (by decide) (by decide)) rfl ?_
  refine xi_istore (pc' := 82) (lv' := [(9, .int 18), (6, .int v7), (8, .int 140), (7, .int 40), (5, .ref 11), (0, .ref 1), (1, .ref 63), (2, .int 0), (3, .int hr), (4, .int 5)]) kc_129_80 rfl rfl (xm_lt ml_129 rfl) ?_
  refine xi_iload (pc' := 84) (x := 40) kc_129_82 rfl rfl ?_
  refine xi_iload (pc' := 86) (x := 18) kc_129_84 rfl rfl ?_
  refine xi_static (mj := 103) (as := [.int 18]) (st1 := [.int 40]) (lv0 := [(0, .int 18)]) kc_129_86 rfl rfl (Nat.le_of_ble_eq_true rfl) rfl rfl (Nat.le_of_ble_eq_true rfl) (hJ _ _ _ _ (by decide)) (xm_le ml_103 rfl) rfl ?_
  refine xi_iload_n (pc' := 1) (x := 18) kc_103_0 rfl rfl ?_
  refine xi_iff (pc' := 4) kc_103_1 rfl rfl ?_
  refine xi_iconst (pc' := 5) (v := 5) kc_103_4 rfl rfl ?_
  refine xi_iload_n (pc' := 6) (x := 18) kc_103_5 rfl rfl ?_
  refine xi_iconst (pc' := 7) (v := 2) kc_103_6 rfl rfl ?_
  refine xi_idiv (pc' := 8) (v := 9) kc_103_7 rfl rfl (by decide) ?_
  refine xi_iadd (pc' := 9) (v := 14) kc_103_8 rfl rfl ?_
  refine xi_iload_n (pc' := 10) (x := 18) kc_103_9 rfl rfl ?_
  refine xi_iload_n (pc' := 11) (x := 18) kc_103_10 rfl rfl ?_
  refine xi_imul (pc' := 12) (v := 324) kc_103_11 rfl rfl ?_
  refine xi_bipush (pc' := 14) (v := 40) kc_103_12 rfl rfl ?_
  refine xi_idiv (pc' := 15) (v := 8) kc_103_14 rfl rfl (by decide) ?_
  refine xi_iadd (pc' := 16) (v := 22) kc_103_15 rfl rfl ?_
  refine xi_ireturn kc_103_16 mr_103 rfl ?_
  show xw J ov (d + 4) 129 (89, [(9, .int 18), (6, .int v7), (8, .int 140), (7, .int 40), (5, .ref 11), (0, .ref 1), (1, .ref 63), (2, .int 0), (3, .int hr), (4, .int 5)], [.int 22, .int 40], hh1) _
  refine xi_imul (pc' := 90) (v := 880) kc_129_89 rfl rfl ?_
  refine xi_istore (pc' := 92) (lv' := [(10, .int 880), (9, .int 18), (6, .int v7), (8, .int 140), (7, .int 40), (5, .ref 11), (0, .ref 1), (1, .ref 63), (2, .int 0), (3, .int hr), (4, .int 5)]) kc_129_90 rfl rfl (xm_lt ml_129 rfl) ?_
  refine xi_iload (pc' := 94) (x := v7) kc_129_92 rfl rfl ?_
  refine xi_iload (pc' := 96) (x := 880) kc_129_94 rfl rfl ?_
  refine xi_cmt (pc' := 119) kc_129_96 rfl (xc_le_t (X := v7.toInt) (Y := 880) rfl (by decide) (by omega)) ?_
  refine xi_aload_n (pc' := 120) (x := 63) kc_129_119 rfl rfl ?_
  refine xi_getfield (pc' := 123) (v := .ref 64) kc_129_120 rfl rfl rfl (G1 63 _ rfl hl_63) rfl ?_
  refine xi_iload_n (pc' := 124) (x := 0) kc_129_123 rfl rfl ?_
  refine xi_iload (pc' := 126) (x := v7) kc_129_124 rfl rfl ?_
  refine xi_iastore (pc' := 127) (x' := [v7, w1, w2, w3, w4, w5]) kc_129_126 rfl A1_64 rfl (xi_in (n := 6) (by decide) (by decide)) rfl (fun hh2 eh2 => ?_)
  have G2 := xg_skip G1 eh2 rfl
  have A2_0 := (eh2.2.1 0 (by decide)).trans A1_0
  have A2_64 := eh2.1
  have n2 := eh2.2.2.1.trans n1
  have z2 := eh2.2.2.2.trans z1
  clear G1 n1 z1 A1_0 A1_64 eh2
  refine xi_return kc_129_127 mr_129 ?_
  exact kk v7 w1 w2 w3 w4 w5 hh2 (by first | omega | decide) (by first | omega | decide) (by first | omega | decide) (by first | omega | decide) (by first | omega | decide) (by first | omega | decide) (by first | omega | decide) (by first | omega | decide) (by first | omega | decide) (by first | omega | decide) (by first | omega | decide) (by first | omega | decide) G2 A2_0 A2_64 n2 z2
set_option maxHeartbeats 8000000 in
set_option maxRecDepth 20000 in
theorem ha_air1 {J : xe_J} {ov : List (List Int32)} {d N Z : Nat} (hJ : ∀ d mj as h, mj ≠ xe_loff → J d mj as h = none) {Q : Option Value → xe_H → Prop} {hr w0 w1 w2 w3 w4 w5 : Int32} {h : xe_H} (h_0 : 0 ≤ w0.toInt) (h_1 : 0 ≤ w1.toInt) (h_2 : 0 ≤ w2.toInt) (h_3 : 0 ≤ w3.toInt) (h_4 : 0 ≤ w4.toInt) (h_5 : 0 ≤ w5.toInt) (h_6 : w0.toInt ≤ 880) (h_7 : w1.toInt ≤ 880) (h_8 : w2.toInt ≤ 880) (h_9 : w3.toInt ≤ 880) (h_10 : w4.toInt ≤ 880) (h_11 : w5.toInt ≤ 880) (h_12 : 0 ≤ hr.toInt) (h_13 : hr.toInt ≤ 599) (G0 : xg [0, 64] h) (A0_0 : h[0]? = some (.inr (0, [.ref 1, .ref 63, .ref 66, .ref 75, .ref 80, .ref 85, .ref 93, .ref 94, .int 0, .int hr]))) (A0_64 : h[64]? = some (.inl (0, .inl ([w0, w1, w2, w3, w4, w5])))) (n0 : h.length = N) (z0 : xe_sz h = Z) (kk : ∀ (w0_ w1_ w2_ w3_ w4_ w5_ : Int32) (h1 : xe_H), 0 ≤ w0_.toInt → 0 ≤ w1_.toInt → 0 ≤ w2_.toInt → 0 ≤ w3_.toInt → 0 ≤ w4_.toInt → 0 ≤ w5_.toInt → w0_.toInt ≤ 880 → w1_.toInt ≤ 880 → w2_.toInt ≤ 880 → w3_.toInt ≤ 880 → w4_.toInt ≤ 880 → w5_.toInt ≤ 880 → xg [0, 64] h1 → h1[0]? = some (.inr (0, [.ref 1, .ref 63, .ref 66, .ref 75, .ref 80, .ref 85, .ref 93, .ref 94, .int 0, .int hr])) → h1[64]? = some (.inl (0, .inl ([w0_, w1_, w2_, w3_, w4_, w5_]))) → h1.length = N → xe_sz h1 = Z → Q (none) h1) : xw J ov (d + 4) 129 (0, [(0, .ref 1), (1, .ref 63), (2, .int 1), (3, .int hr), (4, .int 5)], [], h) Q := by
  refine xi_aload_n (pc' := 1) (x := 1) kc_129_0 rfl rfl ?_
  refine xi_getfield (pc' := 4) (v := .ref 2) kc_129_1 rfl rfl rfl (G0 1 _ rfl hl_1) rfl ?_
  refine xi_iload_n (pc' := 5) (x := 1) kc_129_4 rfl rfl ?_
  refine xi_aaload (pc' := 6) (b := 14) kc_129_5 rfl (G0 2 _ rfl hl_2) rfl (xi_in (n := 6) (by decide) (by decide)) rfl ?_
  refine xi_astore (pc' := 8) (lv' := [(5, .ref 14), (0, .ref 1), (1, .ref 63), (2, .int 1), (3, .int hr), (4, .int 5)]) kc_129_6 rfl rfl (xm_lt ml_129 rfl) ?_
  refine xi_aload_n (pc' := 9) (x := 63) kc_129_8 rfl rfl ?_
  refine xi_iload_n (pc' := 10) (x := 1) kc_129_9 rfl rfl ?_
  refine xi_aload (pc' := 12) (x := 14) kc_129_10 rfl rfl ?_
  refine xi_getfield (pc' := 15) (v := .ref 16) kc_129_12 rfl rfl rfl (G0 14 _ rfl hl_14) rfl ?_
  refine xi_iload_n (pc' := 16) (x := hr) kc_129_15 rfl rfl ?_
  refine xi_bipush (pc' := 18) (v := 24) kc_129_16 rfl rfl ?_
  refine xi_static (mj := 3) (as := [.int hr, .int 24]) (st1 := [.ref 16, .int 1, .ref 63]) (lv0 := [(0, .int hr), (1, .int 24)]) kc_129_18 rfl rfl (Nat.le_of_ble_eq_true rfl) rfl rfl (Nat.le_of_ble_eq_true rfl) (hJ _ _ _ _ (by decide)) (xm_le ml_3 rfl) rfl ?_
  refine xi_iload_n (pc' := 1) (x := hr) kc_3_0 rfl rfl ?_
  refine xi_iload_n (pc' := 2) (x := 24) kc_3_1 rfl rfl ?_
  obtain ⟨v1, ev1⟩ : ∃ q : Int32, hr - hr / 24 * 24 = q := ⟨_, rfl⟩
  have dv1 : 0 ≤ v1.toInt ∧ v1.toInt < 24 := by rw [← ev1]; exact xz_rem (X := hr.toInt) (Y := 24) rfl (by decide) (by omega) (by decide)
  refine xi_irem (pc' := 3) (v := v1) kc_3_2 rfl ev1 (by decide) ?_
  refine xi_istore_n (pc' := 4) (lv' := [(2, .int v1), (0, .int hr), (1, .int 24)]) kc_3_3 rfl rfl (xm_lt ml_3 rfl) ?_
  refine xi_iload_n (pc' := 5) (x := hr) kc_3_4 rfl rfl ?_
  refine xi_iload_n (pc' := 6) (x := 24) kc_3_5 rfl rfl ?_
  obtain ⟨v2, ev2⟩ : ∃ q : Int32, hr ^^^ 24 = q := ⟨_, rfl⟩
  have rv2 := xc_rng v2
  have bv2 : 0 ≤ v2.toInt := by rw [← ev2]; exact xz_xor (by first | omega | decide) (by first | omega | decide)
  refine xi_ixor (pc' := 7) (v := v2) kc_3_6 rfl ev2 ?_
  refine xi_ift (pc' := 18) kc_3_7 rfl (xc_ge_t (X := v2.toInt) (Y := 0) rfl (by decide) (by omega)) ?_
  refine xi_iload_n (pc' := 19) (x := v1) kc_3_18 rfl rfl ?_
  refine xi_ireturn kc_3_19 mr_3 rfl ?_
  show xw J ov (d + 4) 129 (21, [(5, .ref 14), (0, .ref 1), (1, .ref 63), (2, .int 1), (3, .int hr), (4, .int 5)], [.int v1, .ref 16, .int 1, .ref 63], h) _
  refine xi_iaload (pc' := 22) (v := 0) kc_129_21 rfl (G0 16 _ rfl hl_16) (by decide) rfl (xi_in (by omega) (by simp only [List.length_replicate]; omega)) (xa_rep (by omega) (by omega)) ?_
  refine xi_virtual (mj := 128) (as := [.int 1, .int 0]) (st1 := []) (lv0 := [(0, .ref 63), (1, .int 1), (2, .int 0)]) kc_129_22 rfl rfl rfl rfl rfl (G0 63 _ rfl hl_63) (Nat.le_of_ble_eq_true rfl) (hJ _ _ _ _ (by decide)) (xm_le ml_128 rfl) rfl ?_
  refine xi_iload_n (pc' := 1) (x := 1) kc_128_0 rfl rfl ?_
  refine xi_iff (pc' := 4) kc_128_1 rfl rfl ?_
  refine xi_iload_n (pc' := 5) (x := 1) kc_128_4 rfl rfl ?_
  refine xi_aload_n (pc' := 6) (x := 63) kc_128_5 rfl rfl ?_
  refine xi_getfield (pc' := 9) (v := .ref 64) kc_128_6 rfl rfl rfl (G0 63 _ rfl hl_63) rfl ?_
  refine xi_arraylength (pc' := 10) (n := 6) (v := 6) kc_128_9 rfl (xl_lenI (by decide) (by decide) A0_64 (by simp only [List.length_replicate, List.length_cons, List.length_nil])) rfl ?_
  refine xi_cmf (pc' := 13) kc_128_10 rfl rfl ?_
  refine xi_aload_n (pc' := 14) (x := 63) kc_128_13 rfl rfl ?_
  refine xi_getfield (pc' := 17) (v := .ref 64) kc_128_14 rfl rfl rfl (G0 63 _ rfl hl_63) rfl ?_
  refine xi_iload_n (pc' := 18) (x := 1) kc_128_17 rfl rfl ?_
  refine xi_iaload (pc' := 19) (v := w1) kc_128_18 rfl A0_64 (by decide) rfl (xi_in (n := 6) (by decide) (by decide)) rfl ?_
  refine xi_iload_n (pc' := 20) (x := 0) kc_128_19 rfl rfl ?_
  obtain ⟨v3, ev3⟩ : ∃ q : Int32, w1 + 0 = q := ⟨_, rfl⟩
  have zv3 : v3.toInt = w1.toInt := by rw [← ev3]; exact (xz_add (X := w1.toInt) (Y := 0) rfl (by decide) (by omega) (by omega)).trans (by omega)
  refine xi_iadd (pc' := 21) (v := v3) kc_128_20 rfl ev3 ?_
  refine xi_istore_n (pc' := 22) (lv' := [(3, .int v3), (0, .ref 63), (1, .int 1), (2, .int 0)]) kc_128_21 rfl rfl (xm_lt ml_128 rfl) ?_
  refine xi_aload_n (pc' := 23) (x := 63) kc_128_22 rfl rfl ?_
  refine xi_getfield (pc' := 26) (v := .ref 64) kc_128_23 rfl rfl rfl (G0 63 _ rfl hl_63) rfl ?_
  refine xi_iload_n (pc' := 27) (x := 1) kc_128_26 rfl rfl ?_
  refine xi_iload_n (pc' := 28) (x := v3) kc_128_27 rfl rfl ?_
  refine xi_ldc (pc' := 30) (v := 99999) kc_128_28 rfl rfl ?_
  refine xi_cmt (pc' := 38) kc_128_30 rfl (xc_le_t (X := w1.toInt) (Y := 99999) zv3 (by decide) (by omega)) ?_
  refine xi_iload_n (pc' := 39) (x := v3) kc_128_38 rfl rfl ?_
  refine xi_iastore (pc' := 40) (x' := [w0, v3, w2, w3, w4, w5]) kc_128_39 rfl A0_64 rfl (xi_in (n := 6) (by decide) (by decide)) rfl (fun hh1 eh1 => ?_)
  have G1 := xg_skip G0 eh1 rfl
  have A1_0 := (eh1.2.1 0 (by decide)).trans A0_0
  have A1_64 := eh1.1
  have n1 := eh1.2.2.1.trans n0
  have z1 := eh1.2.2.2.trans z0
  clear G0 n0 z0 A0_0 A0_64 eh1
  refine xi_return kc_128_40 mr_128 ?_
  show xw J ov (d + 4) 129 (25, [(5, .ref 14), (0, .ref 1), (1, .ref 63), (2, .int 1), (3, .int hr), (4, .int 5)], [], hh1) _
  refine xi_aload_n (pc' := 26) (x := 63) kc_129_25 rfl rfl ?_
  refine xi_getfield (pc' := 29) (v := .ref 64) kc_129_26 rfl rfl rfl (G1 63 _ rfl hl_63) rfl ?_
  refine xi_iload_n (pc' := 30) (x := 1) kc_129_29 rfl rfl ?_
  refine xi_iaload (pc' := 31) (v := v3) kc_129_30 rfl A1_64 (by decide) rfl (xi_in (n := 6) (by decide) (by decide)) rfl ?_
  refine xi_istore (pc' := 33) (lv' := [(6, .int v3), (5, .ref 14), (0, .ref 1), (1, .ref 63), (2, .int 1), (3, .int hr), (4, .int 5)]) kc_129_31 rfl rfl (xm_lt ml_129 rfl) ?_
  refine xi_aload (pc' := 35) (x := 14) kc_129_33 rfl rfl ?_
  refine xi_getfield (pc' := 38) (v := .ref 15) kc_129_35 rfl rfl rfl (G1 14 _ rfl hl_14) rfl ?_
  refine xi_iconst (pc' := 39) (v := 0) kc_129_38 rfl rfl ?_
  refine xi_iaload (pc' := 40) (v := 40) kc_129_39 rfl (G1 15 _ rfl hl_15) (by decide) rfl (xi_in (n := 5) (by decide) (by decide)) rfl ?_
  refine xi_istore (pc' := 42) (lv' := [(7, .int 40), (6, .int v3), (5, .ref 14), (0, .ref 1), (1, .ref 63), (2, .int 1), (3, .int hr), (4, .int 5)]) kc_129_40 rfl rfl (xm_lt ml_129 rfl) ?_
  refine xi_iload (pc' := 44) (x := 40) kc_129_42 rfl rfl ?_
  refine xi_iload (pc' := 46) (x := 5) kc_129_44 rfl rfl ?_
  refine xi_static (mj := 103) (as := [.int 5]) (st1 := [.int 40]) (lv0 := [(0, .int 5)]) kc_129_46 rfl rfl (Nat.le_of_ble_eq_true rfl) rfl rfl (Nat.le_of_ble_eq_true rfl) (hJ _ _ _ _ (by decide)) (xm_le ml_103 rfl) rfl ?_
  refine xi_iload_n (pc' := 1) (x := 5) kc_103_0 rfl rfl ?_
  refine xi_iff (pc' := 4) kc_103_1 rfl rfl ?_
  refine xi_iconst (pc' := 5) (v := 5) kc_103_4 rfl rfl ?_
  refine xi_iload_n (pc' := 6) (x := 5) kc_103_5 rfl rfl ?_
  refine xi_iconst (pc' := 7) (v := 2) kc_103_6 rfl rfl ?_
  refine xi_idiv (pc' := 8) (v := 2) kc_103_7 rfl rfl (by decide) ?_
  refine xi_iadd (pc' := 9) (v := 7) kc_103_8 rfl rfl ?_
  refine xi_iload_n (pc' := 10) (x := 5) kc_103_9 rfl rfl ?_
  refine xi_iload_n (pc' := 11) (x := 5) kc_103_10 rfl rfl ?_
  refine xi_imul (pc' := 12) (v := 25) kc_103_11 rfl rfl ?_
  refine xi_bipush (pc' := 14) (v := 40) kc_103_12 rfl rfl ?_
  refine xi_idiv (pc' := 15) (v := 0) kc_103_14 rfl rfl (by decide) ?_
  refine xi_iadd (pc' := 16) (v := 7) kc_103_15 rfl rfl ?_
  refine xi_ireturn kc_103_16 mr_103 rfl ?_
  show xw J ov (d + 4) 129 (49, [(7, .int 40), (6, .int v3), (5, .ref 14), (0, .ref 1), (1, .ref 63), (2, .int 1), (3, .int hr), (4, .int 5)], [.int 7, .int 40], hh1) _
  refine xi_imul (pc' := 50) (v := 280) kc_129_49 rfl rfl ?_
  refine xi_iconst (pc' := 51) (v := 2) kc_129_50 rfl rfl ?_
  refine xi_idiv (pc' := 52) (v := 140) kc_129_51 rfl rfl (by decide) ?_
  refine xi_istore (pc' := 54) (lv' := [(8, .int 140), (7, .int 40), (6, .int v3), (5, .ref 14), (0, .ref 1), (1, .ref 63), (2, .int 1), (3, .int hr), (4, .int 5)]) kc_129_52 rfl rfl (xm_lt ml_129 rfl) ?_
  refine xi_iload (pc' := 56) (x := v3) kc_129_54 rfl rfl ?_
  refine xi_iload (pc' := 58) (x := v3) kc_129_56 rfl rfl ?_
  refine xi_iload (pc' := 60) (x := 140) kc_129_58 rfl rfl ?_
  obtain ⟨v4, ev4⟩ : ∃ q : Int32, v3 - 140 = q := ⟨_, rfl⟩
  have zv4 : v4.toInt = (w1.toInt + (-140)) := by rw [← ev4]; exact (xz_sub (X := w1.toInt) (Y := 140) zv3 (by decide) (by omega) (by omega)).trans (by omega)
  refine xi_isub (pc' := 61) (v := v4) kc_129_60 rfl ev4 ?_
  refine xi_aload (pc' := 63) (x := 14) kc_129_61 rfl rfl ?_
  refine xi_virtual (mj := 130) (as := []) (st1 := [.int v4, .int v3]) (lv0 := [(0, .ref 14)]) kc_129_63 rfl rfl rfl rfl rfl (G1 14 _ rfl hl_14) (Nat.le_of_ble_eq_true rfl) (hJ _ _ _ _ (by decide)) (xm_le ml_130 rfl) rfl ?_
  refine xi_aload_n (pc' := 1) (x := 14) kc_130_0 rfl rfl ?_
  refine xi_getfield (pc' := 4) (v := .ref 15) kc_130_1 rfl rfl rfl (G1 14 _ rfl hl_14) rfl ?_
  refine xi_iconst (pc' := 5) (v := 2) kc_130_4 rfl rfl ?_
  refine xi_iaload (pc' := 6) (v := 10) kc_130_5 rfl (G1 15 _ rfl hl_15) (by decide) rfl (xi_in (n := 5) (by decide) (by decide)) rfl ?_
  refine xi_aload_n (pc' := 7) (x := 14) kc_130_6 rfl rfl ?_
  refine xi_getfield (pc' := 10) (v := .ref 15) kc_130_7 rfl rfl rfl (G1 14 _ rfl hl_14) rfl ?_
  refine xi_iconst (pc' := 11) (v := 4) kc_130_10 rfl rfl ?_
  refine xi_iaload (pc' := 12) (v := 0) kc_130_11 rfl (G1 15 _ rfl hl_15) (by decide) rfl (xi_in (n := 5) (by decide) (by decide)) rfl ?_
  refine xi_iconst (pc' := 13) (v := 1) kc_130_12 rfl rfl ?_
  refine xi_cmt (pc' := 25) kc_130_13 rfl rfl ?_
  refine xi_iconst (pc' := 26) (v := 0) kc_130_25 rfl rfl ?_
  refine xi_iadd (pc' := 27) (v := 10) kc_130_26 rfl rfl ?_
  refine xi_ireturn kc_130_27 mr_130 rfl ?_
  show xw J ov (d + 4) 129 (66, [(8, .int 140), (7, .int 40), (6, .int v3), (5, .ref 14), (0, .ref 1), (1, .ref 63), (2, .int 1), (3, .int hr), (4, .int 5)], [.int 10, .int v4, .int v3], hh1) _
  obtain ⟨v5, ev5⟩ : ∃ q : Int32, v4 * 10 = q := ⟨_, rfl⟩
  have zv5 : v5.toInt = ((10) * w1.toInt + (-1400)) := by rw [← ev5]; exact (xz_mul (X := (w1.toInt + (-140))) (Y := 10) zv4 (by decide) (by omega) (by omega)).trans (by omega)
  refine xi_imul (pc' := 67) (v := v5) kc_129_66 rfl ev5 ?_
  refine xi_bipush (pc' := 69) (v := 100) kc_129_67 rfl rfl ?_
  obtain ⟨v6, ev6⟩ : ∃ q : Int32, v5 / 100 = q := ⟨_, rfl⟩
  have dv6 : 100 * v6.toInt ≤ ((10) * w1.toInt + (-1400)) + 99 ∧ ((10) * w1.toInt + (-1400)) ≤ 100 * v6.toInt + 99 := by rw [← ev6]; exact xz_div (X := ((10) * w1.toInt + (-1400))) (Y := 100) zv5 (by decide) (by decide)
  have bv6 : -15 ≤ v6.toInt ∧ v6.toInt ≤ 75 := by omega
  refine xi_idiv (pc' := 70) (v := v6) kc_129_69 rfl ev6 (by decide) ?_
  obtain ⟨v7, ev7⟩ : ∃ q : Int32, v3 - v6 = q := ⟨_, rfl⟩
  have zv7 : v7.toInt = (w1.toInt + (-1) * v6.toInt) := by rw [← ev7]; exact (xz_sub (X := w1.toInt) (Y := v6.toInt) zv3 rfl (by omega) (by omega)).trans (by omega)
  have bv7 : 0 ≤ v7.toInt ∧ v7.toInt ≤ 880 := by omega
  refine xi_isub (pc' := 71) (v := v7) kc_129_70 rfl ev7 ?_
  refine xi_istore (pc' := 73) (lv' := [(6, .int v7), (8, .int 140), (7, .int 40), (5, .ref 14), (0, .ref 1), (1, .ref 63), (2, .int 1), (3, .int hr), (4, .int 5)]) kc_129_71 rfl rfl (xm_lt ml_129 rfl) ?_
  refine xi_aload (pc' := 75) (x := 14) kc_129_73 rfl rfl ?_
  refine xi_getfield (pc' := 78) (v := .ref 15) kc_129_75 rfl rfl rfl (G1 14 _ rfl hl_14) rfl ?_
  refine xi_iconst (pc' := 79) (v := 1) kc_129_78 rfl rfl ?_
  refine xi_iaload (pc' := 80) (v := 18) kc_129_79 rfl (G1 15 _ rfl hl_15) (by decide) rfl (xi_in (n := 5) (by decide) (by decide)) rfl ?_
  refine xi_istore (pc' := 82) (lv' := [(9, .int 18), (6, .int v7), (8, .int 140), (7, .int 40), (5, .ref 14), (0, .ref 1), (1, .ref 63), (2, .int 1), (3, .int hr), (4, .int 5)]) kc_129_80 rfl rfl (xm_lt ml_129 rfl) ?_
  refine xi_iload (pc' := 84) (x := 40) kc_129_82 rfl rfl ?_
  refine xi_iload (pc' := 86) (x := 18) kc_129_84 rfl rfl ?_
  refine xi_static (mj := 103) (as := [.int 18]) (st1 := [.int 40]) (lv0 := [(0, .int 18)]) kc_129_86 rfl rfl (Nat.le_of_ble_eq_true rfl) rfl rfl (Nat.le_of_ble_eq_true rfl) (hJ _ _ _ _ (by decide)) (xm_le ml_103 rfl) rfl ?_
  refine xi_iload_n (pc' := 1) (x := 18) kc_103_0 rfl rfl ?_
  refine xi_iff (pc' := 4) kc_103_1 rfl rfl ?_
  refine xi_iconst (pc' := 5) (v := 5) kc_103_4 rfl rfl ?_
  refine xi_iload_n (pc' := 6) (x := 18) kc_103_5 rfl rfl ?_
  refine xi_iconst (pc' := 7) (v := 2) kc_103_6 rfl rfl ?_
  refine xi_idiv (pc' := 8) (v := 9) kc_103_7 rfl rfl (by decide) ?_
  refine xi_iadd (pc' := 9) (v := 14) kc_103_8 rfl rfl ?_
  refine xi_iload_n (pc' := 10) (x := 18) kc_103_9 rfl rfl ?_
  refine xi_iload_n (pc' := 11) (x := 18) kc_103_10 rfl rfl ?_
  refine xi_imul (pc' := 12) (v := 324) kc_103_11 rfl rfl ?_
  refine xi_bipush (pc' := 14) (v := 40) kc_103_12 rfl rfl ?_
  refine xi_idiv (pc' := 15) (v := 8) kc_103_14 rfl rfl (by decide) ?_
  refine xi_iadd (pc' := 16) (v := 22) kc_103_15 rfl rfl ?_
  refine xi_ireturn kc_103_16 mr_103 rfl ?_
  show xw J ov (d + 4) 129 (89, [(9, .int 18), (6, .int v7), (8, .int 140), (7, .int 40), (5, .ref 14), (0, .ref 1), (1, .ref 63), (2, .int 1), (3, .int hr), (4, .int 5)], [.int 22, .int 40], hh1) _
  refine xi_imul (pc' := 90) (v := 880) kc_129_89 rfl rfl ?_
  refine xi_istore (pc' := 92) (lv' := [(10, .int 880), (9, .int 18), (6, .int v7), (8, .int 140), (7, .int 40), (5, .ref 14), (0, .ref 1), (1, .ref 63), (2, .int 1), (3, .int hr), (4, .int 5)]) kc_129_90 rfl rfl (xm_lt ml_129 rfl) ?_
  refine xi_iload (pc' := 94) (x := v7) kc_129_92 rfl rfl ?_
  refine xi_iload (pc' := 96) (x := 880) kc_129_94 rfl rfl ?_
  refine xi_cmt (pc' := 119) kc_129_96 rfl (xc_le_t (X := v7.toInt) (Y := 880) rfl (by decide) (by omega)) ?_
  refine xi_aload_n (pc' := 120) (x := 63) kc_129_119 rfl rfl ?_
  refine xi_getfield (pc' := 123) (v := .ref 64) kc_129_120 rfl rfl rfl (G1 63 _ rfl hl_63) rfl ?_
  refine xi_iload_n (pc' := 124) (x := 1) kc_129_123 rfl rfl ?_
  refine xi_iload (pc' := 126) (x := v7) kc_129_124 rfl rfl ?_
  refine xi_iastore (pc' := 127) (x' := [w0, v7, w2, w3, w4, w5]) kc_129_126 rfl A1_64 rfl (xi_in (n := 6) (by decide) (by decide)) rfl (fun hh2 eh2 => ?_)
  have G2 := xg_skip G1 eh2 rfl
  have A2_0 := (eh2.2.1 0 (by decide)).trans A1_0
  have A2_64 := eh2.1
  have n2 := eh2.2.2.1.trans n1
  have z2 := eh2.2.2.2.trans z1
  clear G1 n1 z1 A1_0 A1_64 eh2
  refine xi_return kc_129_127 mr_129 ?_
  exact kk w0 v7 w2 w3 w4 w5 hh2 (by first | omega | decide) (by first | omega | decide) (by first | omega | decide) (by first | omega | decide) (by first | omega | decide) (by first | omega | decide) (by first | omega | decide) (by first | omega | decide) (by first | omega | decide) (by first | omega | decide) (by first | omega | decide) (by first | omega | decide) G2 A2_0 A2_64 n2 z2
set_option maxHeartbeats 8000000 in
set_option maxRecDepth 20000 in
theorem ha_air2 {J : xe_J} {ov : List (List Int32)} {d N Z : Nat} (hJ : ∀ d mj as h, mj ≠ xe_loff → J d mj as h = none) {Q : Option Value → xe_H → Prop} {hr w0 w1 w2 w3 w4 w5 : Int32} {h : xe_H} (h_0 : 0 ≤ w0.toInt) (h_1 : 0 ≤ w1.toInt) (h_2 : 0 ≤ w2.toInt) (h_3 : 0 ≤ w3.toInt) (h_4 : 0 ≤ w4.toInt) (h_5 : 0 ≤ w5.toInt) (h_6 : w0.toInt ≤ 880) (h_7 : w1.toInt ≤ 880) (h_8 : w2.toInt ≤ 880) (h_9 : w3.toInt ≤ 880) (h_10 : w4.toInt ≤ 880) (h_11 : w5.toInt ≤ 880) (h_12 : 0 ≤ hr.toInt) (h_13 : hr.toInt ≤ 599) (G0 : xg [0, 64] h) (A0_0 : h[0]? = some (.inr (0, [.ref 1, .ref 63, .ref 66, .ref 75, .ref 80, .ref 85, .ref 93, .ref 94, .int 0, .int hr]))) (A0_64 : h[64]? = some (.inl (0, .inl ([w0, w1, w2, w3, w4, w5])))) (n0 : h.length = N) (z0 : xe_sz h = Z) (kk : ∀ (w0_ w1_ w2_ w3_ w4_ w5_ : Int32) (h1 : xe_H), 0 ≤ w0_.toInt → 0 ≤ w1_.toInt → 0 ≤ w2_.toInt → 0 ≤ w3_.toInt → 0 ≤ w4_.toInt → 0 ≤ w5_.toInt → w0_.toInt ≤ 880 → w1_.toInt ≤ 880 → w2_.toInt ≤ 880 → w3_.toInt ≤ 880 → w4_.toInt ≤ 880 → w5_.toInt ≤ 880 → xg [0, 64] h1 → h1[0]? = some (.inr (0, [.ref 1, .ref 63, .ref 66, .ref 75, .ref 80, .ref 85, .ref 93, .ref 94, .int 0, .int hr])) → h1[64]? = some (.inl (0, .inl ([w0_, w1_, w2_, w3_, w4_, w5_]))) → h1.length = N → xe_sz h1 = Z → Q (none) h1) : xw J ov (d + 4) 129 (0, [(0, .ref 1), (1, .ref 63), (2, .int 2), (3, .int hr), (4, .int 5)], [], h) Q := by
  refine xi_aload_n (pc' := 1) (x := 1) kc_129_0 rfl rfl ?_
  refine xi_getfield (pc' := 4) (v := .ref 2) kc_129_1 rfl rfl rfl (G0 1 _ rfl hl_1) rfl ?_
  refine xi_iload_n (pc' := 5) (x := 2) kc_129_4 rfl rfl ?_
  refine xi_aaload (pc' := 6) (b := 17) kc_129_5 rfl (G0 2 _ rfl hl_2) rfl (xi_in (n := 6) (by decide) (by decide)) rfl ?_
  refine xi_astore (pc' := 8) (lv' := [(5, .ref 17), (0, .ref 1), (1, .ref 63), (2, .int 2), (3, .int hr), (4, .int 5)]) kc_129_6 rfl rfl (xm_lt ml_129 rfl) ?_
  refine xi_aload_n (pc' := 9) (x := 63) kc_129_8 rfl rfl ?_
  refine xi_iload_n (pc' := 10) (x := 2) kc_129_9 rfl rfl ?_
  refine xi_aload (pc' := 12) (x := 17) kc_129_10 rfl rfl ?_
  refine xi_getfield (pc' := 15) (v := .ref 19) kc_129_12 rfl rfl rfl (G0 17 _ rfl hl_17) rfl ?_
  refine xi_iload_n (pc' := 16) (x := hr) kc_129_15 rfl rfl ?_
  refine xi_bipush (pc' := 18) (v := 24) kc_129_16 rfl rfl ?_
  refine xi_static (mj := 3) (as := [.int hr, .int 24]) (st1 := [.ref 19, .int 2, .ref 63]) (lv0 := [(0, .int hr), (1, .int 24)]) kc_129_18 rfl rfl (Nat.le_of_ble_eq_true rfl) rfl rfl (Nat.le_of_ble_eq_true rfl) (hJ _ _ _ _ (by decide)) (xm_le ml_3 rfl) rfl ?_
  refine xi_iload_n (pc' := 1) (x := hr) kc_3_0 rfl rfl ?_
  refine xi_iload_n (pc' := 2) (x := 24) kc_3_1 rfl rfl ?_
  obtain ⟨v1, ev1⟩ : ∃ q : Int32, hr - hr / 24 * 24 = q := ⟨_, rfl⟩
  have dv1 : 0 ≤ v1.toInt ∧ v1.toInt < 24 := by rw [← ev1]; exact xz_rem (X := hr.toInt) (Y := 24) rfl (by decide) (by omega) (by decide)
  refine xi_irem (pc' := 3) (v := v1) kc_3_2 rfl ev1 (by decide) ?_
  refine xi_istore_n (pc' := 4) (lv' := [(2, .int v1), (0, .int hr), (1, .int 24)]) kc_3_3 rfl rfl (xm_lt ml_3 rfl) ?_
  refine xi_iload_n (pc' := 5) (x := hr) kc_3_4 rfl rfl ?_
  refine xi_iload_n (pc' := 6) (x := 24) kc_3_5 rfl rfl ?_
  obtain ⟨v2, ev2⟩ : ∃ q : Int32, hr ^^^ 24 = q := ⟨_, rfl⟩
  have rv2 := xc_rng v2
  have bv2 : 0 ≤ v2.toInt := by rw [← ev2]; exact xz_xor (by first | omega | decide) (by first | omega | decide)
  refine xi_ixor (pc' := 7) (v := v2) kc_3_6 rfl ev2 ?_
  refine xi_ift (pc' := 18) kc_3_7 rfl (xc_ge_t (X := v2.toInt) (Y := 0) rfl (by decide) (by omega)) ?_
  refine xi_iload_n (pc' := 19) (x := v1) kc_3_18 rfl rfl ?_
  refine xi_ireturn kc_3_19 mr_3 rfl ?_
  show xw J ov (d + 4) 129 (21, [(5, .ref 17), (0, .ref 1), (1, .ref 63), (2, .int 2), (3, .int hr), (4, .int 5)], [.int v1, .ref 19, .int 2, .ref 63], h) _
  refine xi_iaload (pc' := 22) (v := 0) kc_129_21 rfl (G0 19 _ rfl hl_19) (by decide) rfl (xi_in (by omega) (by simp only [List.length_replicate]; omega)) (xa_rep (by omega) (by omega)) ?_
  refine xi_virtual (mj := 128) (as := [.int 2, .int 0]) (st1 := []) (lv0 := [(0, .ref 63), (1, .int 2), (2, .int 0)]) kc_129_22 rfl rfl rfl rfl rfl (G0 63 _ rfl hl_63) (Nat.le_of_ble_eq_true rfl) (hJ _ _ _ _ (by decide)) (xm_le ml_128 rfl) rfl ?_
  refine xi_iload_n (pc' := 1) (x := 2) kc_128_0 rfl rfl ?_
  refine xi_iff (pc' := 4) kc_128_1 rfl rfl ?_
  refine xi_iload_n (pc' := 5) (x := 2) kc_128_4 rfl rfl ?_
  refine xi_aload_n (pc' := 6) (x := 63) kc_128_5 rfl rfl ?_
  refine xi_getfield (pc' := 9) (v := .ref 64) kc_128_6 rfl rfl rfl (G0 63 _ rfl hl_63) rfl ?_
  refine xi_arraylength (pc' := 10) (n := 6) (v := 6) kc_128_9 rfl (xl_lenI (by decide) (by decide) A0_64 (by simp only [List.length_replicate, List.length_cons, List.length_nil])) rfl ?_
  refine xi_cmf (pc' := 13) kc_128_10 rfl rfl ?_
  refine xi_aload_n (pc' := 14) (x := 63) kc_128_13 rfl rfl ?_
  refine xi_getfield (pc' := 17) (v := .ref 64) kc_128_14 rfl rfl rfl (G0 63 _ rfl hl_63) rfl ?_
  refine xi_iload_n (pc' := 18) (x := 2) kc_128_17 rfl rfl ?_
  refine xi_iaload (pc' := 19) (v := w2) kc_128_18 rfl A0_64 (by decide) rfl (xi_in (n := 6) (by decide) (by decide)) rfl ?_
  refine xi_iload_n (pc' := 20) (x := 0) kc_128_19 rfl rfl ?_
  obtain ⟨v3, ev3⟩ : ∃ q : Int32, w2 + 0 = q := ⟨_, rfl⟩
  have zv3 : v3.toInt = w2.toInt := by rw [← ev3]; exact (xz_add (X := w2.toInt) (Y := 0) rfl (by decide) (by omega) (by omega)).trans (by omega)
  refine xi_iadd (pc' := 21) (v := v3) kc_128_20 rfl ev3 ?_
  refine xi_istore_n (pc' := 22) (lv' := [(3, .int v3), (0, .ref 63), (1, .int 2), (2, .int 0)]) kc_128_21 rfl rfl (xm_lt ml_128 rfl) ?_
  refine xi_aload_n (pc' := 23) (x := 63) kc_128_22 rfl rfl ?_
  refine xi_getfield (pc' := 26) (v := .ref 64) kc_128_23 rfl rfl rfl (G0 63 _ rfl hl_63) rfl ?_
  refine xi_iload_n (pc' := 27) (x := 2) kc_128_26 rfl rfl ?_
  refine xi_iload_n (pc' := 28) (x := v3) kc_128_27 rfl rfl ?_
  refine xi_ldc (pc' := 30) (v := 99999) kc_128_28 rfl rfl ?_
  refine xi_cmt (pc' := 38) kc_128_30 rfl (xc_le_t (X := w2.toInt) (Y := 99999) zv3 (by decide) (by omega)) ?_
  refine xi_iload_n (pc' := 39) (x := v3) kc_128_38 rfl rfl ?_
  refine xi_iastore (pc' := 40) (x' := [w0, w1, v3, w3, w4, w5]) kc_128_39 rfl A0_64 rfl (xi_in (n := 6) (by decide) (by decide)) rfl (fun hh1 eh1 => ?_)
  have G1 := xg_skip G0 eh1 rfl
  have A1_0 := (eh1.2.1 0 (by decide)).trans A0_0
  have A1_64 := eh1.1
  have n1 := eh1.2.2.1.trans n0
  have z1 := eh1.2.2.2.trans z0
  clear G0 n0 z0 A0_0 A0_64 eh1
  refine xi_return kc_128_40 mr_128 ?_
  show xw J ov (d + 4) 129 (25, [(5, .ref 17), (0, .ref 1), (1, .ref 63), (2, .int 2), (3, .int hr), (4, .int 5)], [], hh1) _
  refine xi_aload_n (pc' := 26) (x := 63) kc_129_25 rfl rfl ?_
  refine xi_getfield (pc' := 29) (v := .ref 64) kc_129_26 rfl rfl rfl (G1 63 _ rfl hl_63) rfl ?_
  refine xi_iload_n (pc' := 30) (x := 2) kc_129_29 rfl rfl ?_
  refine xi_iaload (pc' := 31) (v := v3) kc_129_30 rfl A1_64 (by decide) rfl (xi_in (n := 6) (by decide) (by decide)) rfl ?_
  refine xi_istore (pc' := 33) (lv' := [(6, .int v3), (5, .ref 17), (0, .ref 1), (1, .ref 63), (2, .int 2), (3, .int hr), (4, .int 5)]) kc_129_31 rfl rfl (xm_lt ml_129 rfl) ?_
  refine xi_aload (pc' := 35) (x := 17) kc_129_33 rfl rfl ?_
  refine xi_getfield (pc' := 38) (v := .ref 18) kc_129_35 rfl rfl rfl (G1 17 _ rfl hl_17) rfl ?_
  refine xi_iconst (pc' := 39) (v := 0) kc_129_38 rfl rfl ?_
  refine xi_iaload (pc' := 40) (v := 40) kc_129_39 rfl (G1 18 _ rfl hl_18) (by decide) rfl (xi_in (n := 5) (by decide) (by decide)) rfl ?_
  refine xi_istore (pc' := 42) (lv' := [(7, .int 40), (6, .int v3), (5, .ref 17), (0, .ref 1), (1, .ref 63), (2, .int 2), (3, .int hr), (4, .int 5)]) kc_129_40 rfl rfl (xm_lt ml_129 rfl) ?_
  refine xi_iload (pc' := 44) (x := 40) kc_129_42 rfl rfl ?_
  refine xi_iload (pc' := 46) (x := 5) kc_129_44 rfl rfl ?_
  refine xi_static (mj := 103) (as := [.int 5]) (st1 := [.int 40]) (lv0 := [(0, .int 5)]) kc_129_46 rfl rfl (Nat.le_of_ble_eq_true rfl) rfl rfl (Nat.le_of_ble_eq_true rfl) (hJ _ _ _ _ (by decide)) (xm_le ml_103 rfl) rfl ?_
  refine xi_iload_n (pc' := 1) (x := 5) kc_103_0 rfl rfl ?_
  refine xi_iff (pc' := 4) kc_103_1 rfl rfl ?_
  refine xi_iconst (pc' := 5) (v := 5) kc_103_4 rfl rfl ?_
  refine xi_iload_n (pc' := 6) (x := 5) kc_103_5 rfl rfl ?_
  refine xi_iconst (pc' := 7) (v := 2) kc_103_6 rfl rfl ?_
  refine xi_idiv (pc' := 8) (v := 2) kc_103_7 rfl rfl (by decide) ?_
  refine xi_iadd (pc' := 9) (v := 7) kc_103_8 rfl rfl ?_
  refine xi_iload_n (pc' := 10) (x := 5) kc_103_9 rfl rfl ?_
  refine xi_iload_n (pc' := 11) (x := 5) kc_103_10 rfl rfl ?_
  refine xi_imul (pc' := 12) (v := 25) kc_103_11 rfl rfl ?_
  refine xi_bipush (pc' := 14) (v := 40) kc_103_12 rfl rfl ?_
  refine xi_idiv (pc' := 15) (v := 0) kc_103_14 rfl rfl (by decide) ?_
  refine xi_iadd (pc' := 16) (v := 7) kc_103_15 rfl rfl ?_
  refine xi_ireturn kc_103_16 mr_103 rfl ?_
  show xw J ov (d + 4) 129 (49, [(7, .int 40), (6, .int v3), (5, .ref 17), (0, .ref 1), (1, .ref 63), (2, .int 2), (3, .int hr), (4, .int 5)], [.int 7, .int 40], hh1) _
  refine xi_imul (pc' := 50) (v := 280) kc_129_49 rfl rfl ?_
  refine xi_iconst (pc' := 51) (v := 2) kc_129_50 rfl rfl ?_
  refine xi_idiv (pc' := 52) (v := 140) kc_129_51 rfl rfl (by decide) ?_
  refine xi_istore (pc' := 54) (lv' := [(8, .int 140), (7, .int 40), (6, .int v3), (5, .ref 17), (0, .ref 1), (1, .ref 63), (2, .int 2), (3, .int hr), (4, .int 5)]) kc_129_52 rfl rfl (xm_lt ml_129 rfl) ?_
  refine xi_iload (pc' := 56) (x := v3) kc_129_54 rfl rfl ?_
  refine xi_iload (pc' := 58) (x := v3) kc_129_56 rfl rfl ?_
  refine xi_iload (pc' := 60) (x := 140) kc_129_58 rfl rfl ?_
  obtain ⟨v4, ev4⟩ : ∃ q : Int32, v3 - 140 = q := ⟨_, rfl⟩
  have zv4 : v4.toInt = (w2.toInt + (-140)) := by rw [← ev4]; exact (xz_sub (X := w2.toInt) (Y := 140) zv3 (by decide) (by omega) (by omega)).trans (by omega)
  refine xi_isub (pc' := 61) (v := v4) kc_129_60 rfl ev4 ?_
  refine xi_aload (pc' := 63) (x := 17) kc_129_61 rfl rfl ?_
  refine xi_virtual (mj := 130) (as := []) (st1 := [.int v4, .int v3]) (lv0 := [(0, .ref 17)]) kc_129_63 rfl rfl rfl rfl rfl (G1 17 _ rfl hl_17) (Nat.le_of_ble_eq_true rfl) (hJ _ _ _ _ (by decide)) (xm_le ml_130 rfl) rfl ?_
  refine xi_aload_n (pc' := 1) (x := 17) kc_130_0 rfl rfl ?_
  refine xi_getfield (pc' := 4) (v := .ref 18) kc_130_1 rfl rfl rfl (G1 17 _ rfl hl_17) rfl ?_
  refine xi_iconst (pc' := 5) (v := 2) kc_130_4 rfl rfl ?_
  refine xi_iaload (pc' := 6) (v := 10) kc_130_5 rfl (G1 18 _ rfl hl_18) (by decide) rfl (xi_in (n := 5) (by decide) (by decide)) rfl ?_
  refine xi_aload_n (pc' := 7) (x := 17) kc_130_6 rfl rfl ?_
  refine xi_getfield (pc' := 10) (v := .ref 18) kc_130_7 rfl rfl rfl (G1 17 _ rfl hl_17) rfl ?_
  refine xi_iconst (pc' := 11) (v := 4) kc_130_10 rfl rfl ?_
  refine xi_iaload (pc' := 12) (v := 0) kc_130_11 rfl (G1 18 _ rfl hl_18) (by decide) rfl (xi_in (n := 5) (by decide) (by decide)) rfl ?_
  refine xi_iconst (pc' := 13) (v := 1) kc_130_12 rfl rfl ?_
  refine xi_cmt (pc' := 25) kc_130_13 rfl rfl ?_
  refine xi_iconst (pc' := 26) (v := 0) kc_130_25 rfl rfl ?_
  refine xi_iadd (pc' := 27) (v := 10) kc_130_26 rfl rfl ?_
  refine xi_ireturn kc_130_27 mr_130 rfl ?_
  show xw J ov (d + 4) 129 (66, [(8, .int 140), (7, .int 40), (6, .int v3), (5, .ref 17), (0, .ref 1), (1, .ref 63), (2, .int 2), (3, .int hr), (4, .int 5)], [.int 10, .int v4, .int v3], hh1) _
  obtain ⟨v5, ev5⟩ : ∃ q : Int32, v4 * 10 = q := ⟨_, rfl⟩
  have zv5 : v5.toInt = ((10) * w2.toInt + (-1400)) := by rw [← ev5]; exact (xz_mul (X := (w2.toInt + (-140))) (Y := 10) zv4 (by decide) (by omega) (by omega)).trans (by omega)
  refine xi_imul (pc' := 67) (v := v5) kc_129_66 rfl ev5 ?_
  refine xi_bipush (pc' := 69) (v := 100) kc_129_67 rfl rfl ?_
  obtain ⟨v6, ev6⟩ : ∃ q : Int32, v5 / 100 = q := ⟨_, rfl⟩
  have dv6 : 100 * v6.toInt ≤ ((10) * w2.toInt + (-1400)) + 99 ∧ ((10) * w2.toInt + (-1400)) ≤ 100 * v6.toInt + 99 := by rw [← ev6]; exact xz_div (X := ((10) * w2.toInt + (-1400))) (Y := 100) zv5 (by decide) (by decide)
  have bv6 : -15 ≤ v6.toInt ∧ v6.toInt ≤ 75 := by omega
  refine xi_idiv (pc' := 70) (v := v6) kc_129_69 rfl ev6 (by decide) ?_
  obtain ⟨v7, ev7⟩ : ∃ q : Int32, v3 - v6 = q := ⟨_, rfl⟩
  have zv7 : v7.toInt = (w2.toInt + (-1) * v6.toInt) := by rw [← ev7]; exact (xz_sub (X := w2.toInt) (Y := v6.toInt) zv3 rfl (by omega) (by omega)).trans (by omega)
  have bv7 : 0 ≤ v7.toInt ∧ v7.toInt ≤ 880 := by omega
  refine xi_isub (pc' := 71) (v := v7) kc_129_70 rfl ev7 ?_
  refine xi_istore (pc' := 73) (lv' := [(6, .int v7), (8, .int 140), (7, .int 40), (5, .ref 17), (0, .ref 1), (1, .ref 63), (2, .int 2), (3, .int hr), (4, .int 5)]) kc_129_71 rfl rfl (xm_lt ml_129 rfl) ?_
  refine xi_aload (pc' := 75) (x := 17) kc_129_73 rfl rfl ?_
  refine xi_getfield (pc' := 78) (v := .ref 18) kc_129_75 rfl rfl rfl (G1 17 _ rfl hl_17) rfl ?_
  refine xi_iconst (pc' := 79) (v := 1) kc_129_78 rfl rfl ?_
  refine xi_iaload (pc' := 80) (v := 18) kc_129_79 rfl (G1 18 _ rfl hl_18) (by decide) rfl (xi_in (n := 5) (by decide) (by decide)) rfl ?_
  refine xi_istore (pc' := 82) (lv' := [(9, .int 18), (6, .int v7), (8, .int 140), (7, .int 40), (5, .ref 17), (0, .ref 1), (1, .ref 63), (2, .int 2), (3, .int hr), (4, .int 5)]) kc_129_80 rfl rfl (xm_lt ml_129 rfl) ?_
  refine xi_iload (pc' := 84) (x := 40) kc_129_82 rfl rfl ?_
  refine xi_iload (pc' := 86) (x := 18) kc_129_84 rfl rfl ?_
  refine xi_static (mj := 103) (as := [.int 18]) (st1 := [.int 40]) (lv0 := [(0, .int 18)]) kc_129_86 rfl rfl (Nat.le_of_ble_eq_true rfl) rfl rfl (Nat.le_of_ble_eq_true rfl) (hJ _ _ _ _ (by decide)) (xm_le ml_103 rfl) rfl ?_
  refine xi_iload_n (pc' := 1) (x := 18) kc_103_0 rfl rfl ?_
  refine xi_iff (pc' := 4) kc_103_1 rfl rfl ?_
  refine xi_iconst (pc' := 5) (v := 5) kc_103_4 rfl rfl ?_
  refine xi_iload_n (pc' := 6) (x := 18) kc_103_5 rfl rfl ?_
  refine xi_iconst (pc' := 7) (v := 2) kc_103_6 rfl rfl ?_
  refine xi_idiv (pc' := 8) (v := 9) kc_103_7 rfl rfl (by decide) ?_
  refine xi_iadd (pc' := 9) (v := 14) kc_103_8 rfl rfl ?_
  refine xi_iload_n (pc' := 10) (x := 18) kc_103_9 rfl rfl ?_
  refine xi_iload_n (pc' := 11) (x := 18) kc_103_10 rfl rfl ?_
  refine xi_imul (pc' := 12) (v := 324) kc_103_11 rfl rfl ?_
  refine xi_bipush (pc' := 14) (v := 40) kc_103_12 rfl rfl ?_
  refine xi_idiv (pc' := 15) (v := 8) kc_103_14 rfl rfl (by decide) ?_
  refine xi_iadd (pc' := 16) (v := 22) kc_103_15 rfl rfl ?_
  refine xi_ireturn kc_103_16 mr_103 rfl ?_
  show xw J ov (d + 4) 129 (89, [(9, .int 18), (6, .int v7), (8, .int 140), (7, .int 40), (5, .ref 17), (0, .ref 1), (1, .ref 63), (2, .int 2), (3, .int hr), (4, .int 5)], [.int 22, .int 40], hh1) _
  refine xi_imul (pc' := 90) (v := 880) kc_129_89 rfl rfl ?_
  refine xi_istore (pc' := 92) (lv' := [(10, .int 880), (9, .int 18), (6, .int v7), (8, .int 140), (7, .int 40), (5, .ref 17), (0, .ref 1), (1, .ref 63), (2, .int 2), (3, .int hr), (4, .int 5)]) kc_129_90 rfl rfl (xm_lt ml_129 rfl) ?_
  refine xi_iload (pc' := 94) (x := v7) kc_129_92 rfl rfl ?_
  refine xi_iload (pc' := 96) (x := 880) kc_129_94 rfl rfl ?_
  refine xi_cmt (pc' := 119) kc_129_96 rfl (xc_le_t (X := v7.toInt) (Y := 880) rfl (by decide) (by omega)) ?_
  refine xi_aload_n (pc' := 120) (x := 63) kc_129_119 rfl rfl ?_
  refine xi_getfield (pc' := 123) (v := .ref 64) kc_129_120 rfl rfl rfl (G1 63 _ rfl hl_63) rfl ?_
  refine xi_iload_n (pc' := 124) (x := 2) kc_129_123 rfl rfl ?_
  refine xi_iload (pc' := 126) (x := v7) kc_129_124 rfl rfl ?_
  refine xi_iastore (pc' := 127) (x' := [w0, w1, v7, w3, w4, w5]) kc_129_126 rfl A1_64 rfl (xi_in (n := 6) (by decide) (by decide)) rfl (fun hh2 eh2 => ?_)
  have G2 := xg_skip G1 eh2 rfl
  have A2_0 := (eh2.2.1 0 (by decide)).trans A1_0
  have A2_64 := eh2.1
  have n2 := eh2.2.2.1.trans n1
  have z2 := eh2.2.2.2.trans z1
  clear G1 n1 z1 A1_0 A1_64 eh2
  refine xi_return kc_129_127 mr_129 ?_
  exact kk w0 w1 v7 w3 w4 w5 hh2 (by first | omega | decide) (by first | omega | decide) (by first | omega | decide) (by first | omega | decide) (by first | omega | decide) (by first | omega | decide) (by first | omega | decide) (by first | omega | decide) (by first | omega | decide) (by first | omega | decide) (by first | omega | decide) (by first | omega | decide) G2 A2_0 A2_64 n2 z2
set_option maxHeartbeats 8000000 in
set_option maxRecDepth 20000 in
theorem ha_air3 {J : xe_J} {ov : List (List Int32)} {d N Z : Nat} (hJ : ∀ d mj as h, mj ≠ xe_loff → J d mj as h = none) {Q : Option Value → xe_H → Prop} {hr w0 w1 w2 w3 w4 w5 : Int32} {h : xe_H} (h_0 : 0 ≤ w0.toInt) (h_1 : 0 ≤ w1.toInt) (h_2 : 0 ≤ w2.toInt) (h_3 : 0 ≤ w3.toInt) (h_4 : 0 ≤ w4.toInt) (h_5 : 0 ≤ w5.toInt) (h_6 : w0.toInt ≤ 880) (h_7 : w1.toInt ≤ 880) (h_8 : w2.toInt ≤ 880) (h_9 : w3.toInt ≤ 880) (h_10 : w4.toInt ≤ 880) (h_11 : w5.toInt ≤ 880) (h_12 : 0 ≤ hr.toInt) (h_13 : hr.toInt ≤ 599) (G0 : xg [0, 64] h) (A0_0 : h[0]? = some (.inr (0, [.ref 1, .ref 63, .ref 66, .ref 75, .ref 80, .ref 85, .ref 93, .ref 94, .int 0, .int hr]))) (A0_64 : h[64]? = some (.inl (0, .inl ([w0, w1, w2, w3, w4, w5])))) (n0 : h.length = N) (z0 : xe_sz h = Z) (kk : ∀ (w0_ w1_ w2_ w3_ w4_ w5_ : Int32) (h1 : xe_H), 0 ≤ w0_.toInt → 0 ≤ w1_.toInt → 0 ≤ w2_.toInt → 0 ≤ w3_.toInt → 0 ≤ w4_.toInt → 0 ≤ w5_.toInt → w0_.toInt ≤ 880 → w1_.toInt ≤ 880 → w2_.toInt ≤ 880 → w3_.toInt ≤ 880 → w4_.toInt ≤ 880 → w5_.toInt ≤ 880 → xg [0, 64] h1 → h1[0]? = some (.inr (0, [.ref 1, .ref 63, .ref 66, .ref 75, .ref 80, .ref 85, .ref 93, .ref 94, .int 0, .int hr])) → h1[64]? = some (.inl (0, .inl ([w0_, w1_, w2_, w3_, w4_, w5_]))) → h1.length = N → xe_sz h1 = Z → Q (none) h1) : xw J ov (d + 4) 129 (0, [(0, .ref 1), (1, .ref 63), (2, .int 3), (3, .int hr), (4, .int 5)], [], h) Q := by
  refine xi_aload_n (pc' := 1) (x := 1) kc_129_0 rfl rfl ?_
  refine xi_getfield (pc' := 4) (v := .ref 2) kc_129_1 rfl rfl rfl (G0 1 _ rfl hl_1) rfl ?_
  refine xi_iload_n (pc' := 5) (x := 3) kc_129_4 rfl rfl ?_
  refine xi_aaload (pc' := 6) (b := 20) kc_129_5 rfl (G0 2 _ rfl hl_2) rfl (xi_in (n := 6) (by decide) (by decide)) rfl ?_
  refine xi_astore (pc' := 8) (lv' := [(5, .ref 20), (0, .ref 1), (1, .ref 63), (2, .int 3), (3, .int hr), (4, .int 5)]) kc_129_6 rfl rfl (xm_lt ml_129 rfl) ?_
  refine xi_aload_n (pc' := 9) (x := 63) kc_129_8 rfl rfl ?_
  refine xi_iload_n (pc' := 10) (x := 3) kc_129_9 rfl rfl ?_
  refine xi_aload (pc' := 12) (x := 20) kc_129_10 rfl rfl ?_
  refine xi_getfield (pc' := 15) (v := .ref 22) kc_129_12 rfl rfl rfl (G0 20 _ rfl hl_20) rfl ?_
  refine xi_iload_n (pc' := 16) (x := hr) kc_129_15 rfl rfl ?_
  refine xi_bipush (pc' := 18) (v := 24) kc_129_16 rfl rfl ?_
  refine xi_static (mj := 3) (as := [.int hr, .int 24]) (st1 := [.ref 22, .int 3, .ref 63]) (lv0 := [(0, .int hr), (1, .int 24)]) kc_129_18 rfl rfl (Nat.le_of_ble_eq_true rfl) rfl rfl (Nat.le_of_ble_eq_true rfl) (hJ _ _ _ _ (by decide)) (xm_le ml_3 rfl) rfl ?_
  refine xi_iload_n (pc' := 1) (x := hr) kc_3_0 rfl rfl ?_
  refine xi_iload_n (pc' := 2) (x := 24) kc_3_1 rfl rfl ?_
  obtain ⟨v1, ev1⟩ : ∃ q : Int32, hr - hr / 24 * 24 = q := ⟨_, rfl⟩
  have dv1 : 0 ≤ v1.toInt ∧ v1.toInt < 24 := by rw [← ev1]; exact xz_rem (X := hr.toInt) (Y := 24) rfl (by decide) (by omega) (by decide)
  refine xi_irem (pc' := 3) (v := v1) kc_3_2 rfl ev1 (by decide) ?_
  refine xi_istore_n (pc' := 4) (lv' := [(2, .int v1), (0, .int hr), (1, .int 24)]) kc_3_3 rfl rfl (xm_lt ml_3 rfl) ?_
  refine xi_iload_n (pc' := 5) (x := hr) kc_3_4 rfl rfl ?_
  refine xi_iload_n (pc' := 6) (x := 24) kc_3_5 rfl rfl ?_
  obtain ⟨v2, ev2⟩ : ∃ q : Int32, hr ^^^ 24 = q := ⟨_, rfl⟩
  have rv2 := xc_rng v2
  have bv2 : 0 ≤ v2.toInt := by rw [← ev2]; exact xz_xor (by first | omega | decide) (by first | omega | decide)
  refine xi_ixor (pc' := 7) (v := v2) kc_3_6 rfl ev2 ?_
  refine xi_ift (pc' := 18) kc_3_7 rfl (xc_ge_t (X := v2.toInt) (Y := 0) rfl (by decide) (by omega)) ?_
  refine xi_iload_n (pc' := 19) (x := v1) kc_3_18 rfl rfl ?_
  refine xi_ireturn kc_3_19 mr_3 rfl ?_
  show xw J ov (d + 4) 129 (21, [(5, .ref 20), (0, .ref 1), (1, .ref 63), (2, .int 3), (3, .int hr), (4, .int 5)], [.int v1, .ref 22, .int 3, .ref 63], h) _
  refine xi_iaload (pc' := 22) (v := 0) kc_129_21 rfl (G0 22 _ rfl hl_22) (by decide) rfl (xi_in (by omega) (by simp only [List.length_replicate]; omega)) (xa_rep (by omega) (by omega)) ?_
  refine xi_virtual (mj := 128) (as := [.int 3, .int 0]) (st1 := []) (lv0 := [(0, .ref 63), (1, .int 3), (2, .int 0)]) kc_129_22 rfl rfl rfl rfl rfl (G0 63 _ rfl hl_63) (Nat.le_of_ble_eq_true rfl) (hJ _ _ _ _ (by decide)) (xm_le ml_128 rfl) rfl ?_
  refine xi_iload_n (pc' := 1) (x := 3) kc_128_0 rfl rfl ?_
  refine xi_iff (pc' := 4) kc_128_1 rfl rfl ?_
  refine xi_iload_n (pc' := 5) (x := 3) kc_128_4 rfl rfl ?_
  refine xi_aload_n (pc' := 6) (x := 63) kc_128_5 rfl rfl ?_
  refine xi_getfield (pc' := 9) (v := .ref 64) kc_128_6 rfl rfl rfl (G0 63 _ rfl hl_63) rfl ?_
  refine xi_arraylength (pc' := 10) (n := 6) (v := 6) kc_128_9 rfl (xl_lenI (by decide) (by decide) A0_64 (by simp only [List.length_replicate, List.length_cons, List.length_nil])) rfl ?_
  refine xi_cmf (pc' := 13) kc_128_10 rfl rfl ?_
  refine xi_aload_n (pc' := 14) (x := 63) kc_128_13 rfl rfl ?_
  refine xi_getfield (pc' := 17) (v := .ref 64) kc_128_14 rfl rfl rfl (G0 63 _ rfl hl_63) rfl ?_
  refine xi_iload_n (pc' := 18) (x := 3) kc_128_17 rfl rfl ?_
  refine xi_iaload (pc' := 19) (v := w3) kc_128_18 rfl A0_64 (by decide) rfl (xi_in (n := 6) (by decide) (by decide)) rfl ?_
  refine xi_iload_n (pc' := 20) (x := 0) kc_128_19 rfl rfl ?_
  obtain ⟨v3, ev3⟩ : ∃ q : Int32, w3 + 0 = q := ⟨_, rfl⟩
  have zv3 : v3.toInt = w3.toInt := by rw [← ev3]; exact (xz_add (X := w3.toInt) (Y := 0) rfl (by decide) (by omega) (by omega)).trans (by omega)
  refine xi_iadd (pc' := 21) (v := v3) kc_128_20 rfl ev3 ?_
  refine xi_istore_n (pc' := 22) (lv' := [(3, .int v3), (0, .ref 63), (1, .int 3), (2, .int 0)]) kc_128_21 rfl rfl (xm_lt ml_128 rfl) ?_
  refine xi_aload_n (pc' := 23) (x := 63) kc_128_22 rfl rfl ?_
  refine xi_getfield (pc' := 26) (v := .ref 64) kc_128_23 rfl rfl rfl (G0 63 _ rfl hl_63) rfl ?_
  refine xi_iload_n (pc' := 27) (x := 3) kc_128_26 rfl rfl ?_
  refine xi_iload_n (pc' := 28) (x := v3) kc_128_27 rfl rfl ?_
  refine xi_ldc (pc' := 30) (v := 99999) kc_128_28 rfl rfl ?_
  refine xi_cmt (pc' := 38) kc_128_30 rfl (xc_le_t (X := w3.toInt) (Y := 99999) zv3 (by decide) (by omega)) ?_
  refine xi_iload_n (pc' := 39) (x := v3) kc_128_38 rfl rfl ?_
  refine xi_iastore (pc' := 40) (x' := [w0, w1, w2, v3, w4, w5]) kc_128_39 rfl A0_64 rfl (xi_in (n := 6) (by decide) (by decide)) rfl (fun hh1 eh1 => ?_)
  have G1 := xg_skip G0 eh1 rfl
  have A1_0 := (eh1.2.1 0 (by decide)).trans A0_0
  have A1_64 := eh1.1
  have n1 := eh1.2.2.1.trans n0
  have z1 := eh1.2.2.2.trans z0
  clear G0 n0 z0 A0_0 A0_64 eh1
  refine xi_return kc_128_40 mr_128 ?_
  show xw J ov (d + 4) 129 (25, [(5, .ref 20), (0, .ref 1), (1, .ref 63), (2, .int 3), (3, .int hr), (4, .int 5)], [], hh1) _
  refine xi_aload_n (pc' := 26) (x := 63) kc_129_25 rfl rfl ?_
  refine xi_getfield (pc' := 29) (v := .ref 64) kc_129_26 rfl rfl rfl (G1 63 _ rfl hl_63) rfl ?_
  refine xi_iload_n (pc' := 30) (x := 3) kc_129_29 rfl rfl ?_
  refine xi_iaload (pc' := 31) (v := v3) kc_129_30 rfl A1_64 (by decide) rfl (xi_in (n := 6) (by decide) (by decide)) rfl ?_
  refine xi_istore (pc' := 33) (lv' := [(6, .int v3), (5, .ref 20), (0, .ref 1), (1, .ref 63), (2, .int 3), (3, .int hr), (4, .int 5)]) kc_129_31 rfl rfl (xm_lt ml_129 rfl) ?_
  refine xi_aload (pc' := 35) (x := 20) kc_129_33 rfl rfl ?_
  refine xi_getfield (pc' := 38) (v := .ref 21) kc_129_35 rfl rfl rfl (G1 20 _ rfl hl_20) rfl ?_
  refine xi_iconst (pc' := 39) (v := 0) kc_129_38 rfl rfl ?_
  refine xi_iaload (pc' := 40) (v := 40) kc_129_39 rfl (G1 21 _ rfl hl_21) (by decide) rfl (xi_in (n := 5) (by decide) (by decide)) rfl ?_
  refine xi_istore (pc' := 42) (lv' := [(7, .int 40), (6, .int v3), (5, .ref 20), (0, .ref 1), (1, .ref 63), (2, .int 3), (3, .int hr), (4, .int 5)]) kc_129_40 rfl rfl (xm_lt ml_129 rfl) ?_
  refine xi_iload (pc' := 44) (x := 40) kc_129_42 rfl rfl ?_
  refine xi_iload (pc' := 46) (x := 5) kc_129_44 rfl rfl ?_
  refine xi_static (mj := 103) (as := [.int 5]) (st1 := [.int 40]) (lv0 := [(0, .int 5)]) kc_129_46 rfl rfl (Nat.le_of_ble_eq_true rfl) rfl rfl (Nat.le_of_ble_eq_true rfl) (hJ _ _ _ _ (by decide)) (xm_le ml_103 rfl) rfl ?_
  refine xi_iload_n (pc' := 1) (x := 5) kc_103_0 rfl rfl ?_
  refine xi_iff (pc' := 4) kc_103_1 rfl rfl ?_
  refine xi_iconst (pc' := 5) (v := 5) kc_103_4 rfl rfl ?_
  refine xi_iload_n (pc' := 6) (x := 5) kc_103_5 rfl rfl ?_
  refine xi_iconst (pc' := 7) (v := 2) kc_103_6 rfl rfl ?_
  refine xi_idiv (pc' := 8) (v := 2) kc_103_7 rfl rfl (by decide) ?_
  refine xi_iadd (pc' := 9) (v := 7) kc_103_8 rfl rfl ?_
  refine xi_iload_n (pc' := 10) (x := 5) kc_103_9 rfl rfl ?_
  refine xi_iload_n (pc' := 11) (x := 5) kc_103_10 rfl rfl ?_
  refine xi_imul (pc' := 12) (v := 25) kc_103_11 rfl rfl ?_
  refine xi_bipush (pc' := 14) (v := 40) kc_103_12 rfl rfl ?_
  refine xi_idiv (pc' := 15) (v := 0) kc_103_14 rfl rfl (by decide) ?_
  refine xi_iadd (pc' := 16) (v := 7) kc_103_15 rfl rfl ?_
  refine xi_ireturn kc_103_16 mr_103 rfl ?_
  show xw J ov (d + 4) 129 (49, [(7, .int 40), (6, .int v3), (5, .ref 20), (0, .ref 1), (1, .ref 63), (2, .int 3), (3, .int hr), (4, .int 5)], [.int 7, .int 40], hh1) _
  refine xi_imul (pc' := 50) (v := 280) kc_129_49 rfl rfl ?_
  refine xi_iconst (pc' := 51) (v := 2) kc_129_50 rfl rfl ?_
  refine xi_idiv (pc' := 52) (v := 140) kc_129_51 rfl rfl (by decide) ?_
  refine xi_istore (pc' := 54) (lv' := [(8, .int 140), (7, .int 40), (6, .int v3), (5, .ref 20), (0, .ref 1), (1, .ref 63), (2, .int 3), (3, .int hr), (4, .int 5)]) kc_129_52 rfl rfl (xm_lt ml_129 rfl) ?_
  refine xi_iload (pc' := 56) (x := v3) kc_129_54 rfl rfl ?_
  refine xi_iload (pc' := 58) (x := v3) kc_129_56 rfl rfl ?_
  refine xi_iload (pc' := 60) (x := 140) kc_129_58 rfl rfl ?_
  obtain ⟨v4, ev4⟩ : ∃ q : Int32, v3 - 140 = q := ⟨_, rfl⟩
  have zv4 : v4.toInt = (w3.toInt + (-140)) := by rw [← ev4]; exact (xz_sub (X := w3.toInt) (Y := 140) zv3 (by decide) (by omega) (by omega)).trans (by omega)
  refine xi_isub (pc' := 61) (v := v4) kc_129_60 rfl ev4 ?_
  refine xi_aload (pc' := 63) (x := 20) kc_129_61 rfl rfl ?_
  refine xi_virtual (mj := 130) (as := []) (st1 := [.int v4, .int v3]) (lv0 := [(0, .ref 20)]) kc_129_63 rfl rfl rfl rfl rfl (G1 20 _ rfl hl_20) (Nat.le_of_ble_eq_true rfl) (hJ _ _ _ _ (by decide)) (xm_le ml_130 rfl) rfl ?_
  refine xi_aload_n (pc' := 1) (x := 20) kc_130_0 rfl rfl ?_
  refine xi_getfield (pc' := 4) (v := .ref 21) kc_130_1 rfl rfl rfl (G1 20 _ rfl hl_20) rfl ?_
  refine xi_iconst (pc' := 5) (v := 2) kc_130_4 rfl rfl ?_
  refine xi_iaload (pc' := 6) (v := 10) kc_130_5 rfl (G1 21 _ rfl hl_21) (by decide) rfl (xi_in (n := 5) (by decide) (by decide)) rfl ?_
  refine xi_aload_n (pc' := 7) (x := 20) kc_130_6 rfl rfl ?_
  refine xi_getfield (pc' := 10) (v := .ref 21) kc_130_7 rfl rfl rfl (G1 20 _ rfl hl_20) rfl ?_
  refine xi_iconst (pc' := 11) (v := 4) kc_130_10 rfl rfl ?_
  refine xi_iaload (pc' := 12) (v := 0) kc_130_11 rfl (G1 21 _ rfl hl_21) (by decide) rfl (xi_in (n := 5) (by decide) (by decide)) rfl ?_
  refine xi_iconst (pc' := 13) (v := 1) kc_130_12 rfl rfl ?_
  refine xi_cmt (pc' := 25) kc_130_13 rfl rfl ?_
  refine xi_iconst (pc' := 26) (v := 0) kc_130_25 rfl rfl ?_
  refine xi_iadd (pc' := 27) (v := 10) kc_130_26 rfl rfl ?_
  refine xi_ireturn kc_130_27 mr_130 rfl ?_
  show xw J ov (d + 4) 129 (66, [(8, .int 140), (7, .int 40), (6, .int v3), (5, .ref 20), (0, .ref 1), (1, .ref 63), (2, .int 3), (3, .int hr), (4, .int 5)], [.int 10, .int v4, .int v3], hh1) _
  obtain ⟨v5, ev5⟩ : ∃ q : Int32, v4 * 10 = q := ⟨_, rfl⟩
  have zv5 : v5.toInt = ((10) * w3.toInt + (-1400)) := by rw [← ev5]; exact (xz_mul (X := (w3.toInt + (-140))) (Y := 10) zv4 (by decide) (by omega) (by omega)).trans (by omega)
  refine xi_imul (pc' := 67) (v := v5) kc_129_66 rfl ev5 ?_
  refine xi_bipush (pc' := 69) (v := 100) kc_129_67 rfl rfl ?_
  obtain ⟨v6, ev6⟩ : ∃ q : Int32, v5 / 100 = q := ⟨_, rfl⟩
  have dv6 : 100 * v6.toInt ≤ ((10) * w3.toInt + (-1400)) + 99 ∧ ((10) * w3.toInt + (-1400)) ≤ 100 * v6.toInt + 99 := by rw [← ev6]; exact xz_div (X := ((10) * w3.toInt + (-1400))) (Y := 100) zv5 (by decide) (by decide)
  have bv6 : -15 ≤ v6.toInt ∧ v6.toInt ≤ 75 := by omega
  refine xi_idiv (pc' := 70) (v := v6) kc_129_69 rfl ev6 (by decide) ?_
  obtain ⟨v7, ev7⟩ : ∃ q : Int32, v3 - v6 = q := ⟨_, rfl⟩
  have zv7 : v7.toInt = (w3.toInt + (-1) * v6.toInt) := by rw [← ev7]; exact (xz_sub (X := w3.toInt) (Y := v6.toInt) zv3 rfl (by omega) (by omega)).trans (by omega)
  have bv7 : 0 ≤ v7.toInt ∧ v7.toInt ≤ 880 := by omega
  refine xi_isub (pc' := 71) (v := v7) kc_129_70 rfl ev7 ?_
  refine xi_istore (pc' := 73) (lv' := [(6, .int v7), (8, .int 140), (7, .int 40), (5, .ref 20), (0, .ref 1), (1, .ref 63), (2, .int 3), (3, .int hr), (4, .int 5)]) kc_129_71 rfl rfl (xm_lt ml_129 rfl) ?_
  refine xi_aload (pc' := 75) (x := 20) kc_129_73 rfl rfl ?_
  refine xi_getfield (pc' := 78) (v := .ref 21) kc_129_75 rfl rfl rfl (G1 20 _ rfl hl_20) rfl ?_
  refine xi_iconst (pc' := 79) (v := 1) kc_129_78 rfl rfl ?_
  refine xi_iaload (pc' := 80) (v := 18) kc_129_79 rfl (G1 21 _ rfl hl_21) (by decide) rfl (xi_in (n := 5) (by decide) (by decide)) rfl ?_
  refine xi_istore (pc' := 82) (lv' := [(9, .int 18), (6, .int v7), (8, .int 140), (7, .int 40), (5, .ref 20), (0, .ref 1), (1, .ref 63), (2, .int 3), (3, .int hr), (4, .int 5)]) kc_129_80 rfl rfl (xm_lt ml_129 rfl) ?_
  refine xi_iload (pc' := 84) (x := 40) kc_129_82 rfl rfl ?_
  refine xi_iload (pc' := 86) (x := 18) kc_129_84 rfl rfl ?_
  refine xi_static (mj := 103) (as := [.int 18]) (st1 := [.int 40]) (lv0 := [(0, .int 18)]) kc_129_86 rfl rfl (Nat.le_of_ble_eq_true rfl) rfl rfl (Nat.le_of_ble_eq_true rfl) (hJ _ _ _ _ (by decide)) (xm_le ml_103 rfl) rfl ?_
  refine xi_iload_n (pc' := 1) (x := 18) kc_103_0 rfl rfl ?_
  refine xi_iff (pc' := 4) kc_103_1 rfl rfl ?_
  refine xi_iconst (pc' := 5) (v := 5) kc_103_4 rfl rfl ?_
  refine xi_iload_n (pc' := 6) (x := 18) kc_103_5 rfl rfl ?_
  refine xi_iconst (pc' := 7) (v := 2) kc_103_6 rfl rfl ?_
  refine xi_idiv (pc' := 8) (v := 9) kc_103_7 rfl rfl (by decide) ?_
  refine xi_iadd (pc' := 9) (v := 14) kc_103_8 rfl rfl ?_
  refine xi_iload_n (pc' := 10) (x := 18) kc_103_9 rfl rfl ?_
  refine xi_iload_n (pc' := 11) (x := 18) kc_103_10 rfl rfl ?_
  refine xi_imul (pc' := 12) (v := 324) kc_103_11 rfl rfl ?_
  refine xi_bipush (pc' := 14) (v := 40) kc_103_12 rfl rfl ?_
  refine xi_idiv (pc' := 15) (v := 8) kc_103_14 rfl rfl (by decide) ?_
  refine xi_iadd (pc' := 16) (v := 22) kc_103_15 rfl rfl ?_
  refine xi_ireturn kc_103_16 mr_103 rfl ?_
  show xw J ov (d + 4) 129 (89, [(9, .int 18), (6, .int v7), (8, .int 140), (7, .int 40), (5, .ref 20), (0, .ref 1), (1, .ref 63), (2, .int 3), (3, .int hr), (4, .int 5)], [.int 22, .int 40], hh1) _
  refine xi_imul (pc' := 90) (v := 880) kc_129_89 rfl rfl ?_
  refine xi_istore (pc' := 92) (lv' := [(10, .int 880), (9, .int 18), (6, .int v7), (8, .int 140), (7, .int 40), (5, .ref 20), (0, .ref 1), (1, .ref 63), (2, .int 3), (3, .int hr), (4, .int 5)]) kc_129_90 rfl rfl (xm_lt ml_129 rfl) ?_
  refine xi_iload (pc' := 94) (x := v7) kc_129_92 rfl rfl ?_
  refine xi_iload (pc' := 96) (x := 880) kc_129_94 rfl rfl ?_
  refine xi_cmt (pc' := 119) kc_129_96 rfl (xc_le_t (X := v7.toInt) (Y := 880) rfl (by decide) (by omega)) ?_
  refine xi_aload_n (pc' := 120) (x := 63) kc_129_119 rfl rfl ?_
  refine xi_getfield (pc' := 123) (v := .ref 64) kc_129_120 rfl rfl rfl (G1 63 _ rfl hl_63) rfl ?_
  refine xi_iload_n (pc' := 124) (x := 3) kc_129_123 rfl rfl ?_
  refine xi_iload (pc' := 126) (x := v7) kc_129_124 rfl rfl ?_
  refine xi_iastore (pc' := 127) (x' := [w0, w1, w2, v7, w4, w5]) kc_129_126 rfl A1_64 rfl (xi_in (n := 6) (by decide) (by decide)) rfl (fun hh2 eh2 => ?_)
  have G2 := xg_skip G1 eh2 rfl
  have A2_0 := (eh2.2.1 0 (by decide)).trans A1_0
  have A2_64 := eh2.1
  have n2 := eh2.2.2.1.trans n1
  have z2 := eh2.2.2.2.trans z1
  clear G1 n1 z1 A1_0 A1_64 eh2
  refine xi_return kc_129_127 mr_129 ?_
  exact kk w0 w1 w2 v7 w4 w5 hh2 (by first | omega | decide) (by first | omega | decide) (by first | omega | decide) (by first | omega | decide) (by first | omega | decide) (by first | omega | decide) (by first | omega | decide) (by first | omega | decide) (by first | omega | decide) (by first | omega | decide) (by first | omega | decide) (by first | omega | decide) G2 A2_0 A2_64 n2 z2
set_option maxHeartbeats 8000000 in
set_option maxRecDepth 20000 in
theorem ha_air4 {J : xe_J} {ov : List (List Int32)} {d N Z : Nat} (hJ : ∀ d mj as h, mj ≠ xe_loff → J d mj as h = none) {Q : Option Value → xe_H → Prop} {hr w0 w1 w2 w3 w4 w5 : Int32} {h : xe_H} (h_0 : 0 ≤ w0.toInt) (h_1 : 0 ≤ w1.toInt) (h_2 : 0 ≤ w2.toInt) (h_3 : 0 ≤ w3.toInt) (h_4 : 0 ≤ w4.toInt) (h_5 : 0 ≤ w5.toInt) (h_6 : w0.toInt ≤ 880) (h_7 : w1.toInt ≤ 880) (h_8 : w2.toInt ≤ 880) (h_9 : w3.toInt ≤ 880) (h_10 : w4.toInt ≤ 880) (h_11 : w5.toInt ≤ 880) (h_12 : 0 ≤ hr.toInt) (h_13 : hr.toInt ≤ 599) (G0 : xg [0, 64] h) (A0_0 : h[0]? = some (.inr (0, [.ref 1, .ref 63, .ref 66, .ref 75, .ref 80, .ref 85, .ref 93, .ref 94, .int 0, .int hr]))) (A0_64 : h[64]? = some (.inl (0, .inl ([w0, w1, w2, w3, w4, w5])))) (n0 : h.length = N) (z0 : xe_sz h = Z) (kk : ∀ (w0_ w1_ w2_ w3_ w4_ w5_ : Int32) (h1 : xe_H), 0 ≤ w0_.toInt → 0 ≤ w1_.toInt → 0 ≤ w2_.toInt → 0 ≤ w3_.toInt → 0 ≤ w4_.toInt → 0 ≤ w5_.toInt → w0_.toInt ≤ 880 → w1_.toInt ≤ 880 → w2_.toInt ≤ 880 → w3_.toInt ≤ 880 → w4_.toInt ≤ 880 → w5_.toInt ≤ 880 → xg [0, 64] h1 → h1[0]? = some (.inr (0, [.ref 1, .ref 63, .ref 66, .ref 75, .ref 80, .ref 85, .ref 93, .ref 94, .int 0, .int hr])) → h1[64]? = some (.inl (0, .inl ([w0_, w1_, w2_, w3_, w4_, w5_]))) → h1.length = N → xe_sz h1 = Z → Q (none) h1) : xw J ov (d + 4) 129 (0, [(0, .ref 1), (1, .ref 63), (2, .int 4), (3, .int hr), (4, .int 5)], [], h) Q := by
  refine xi_aload_n (pc' := 1) (x := 1) kc_129_0 rfl rfl ?_
  refine xi_getfield (pc' := 4) (v := .ref 2) kc_129_1 rfl rfl rfl (G0 1 _ rfl hl_1) rfl ?_
  refine xi_iload_n (pc' := 5) (x := 4) kc_129_4 rfl rfl ?_
  refine xi_aaload (pc' := 6) (b := 23) kc_129_5 rfl (G0 2 _ rfl hl_2) rfl (xi_in (n := 6) (by decide) (by decide)) rfl ?_
  refine xi_astore (pc' := 8) (lv' := [(5, .ref 23), (0, .ref 1), (1, .ref 63), (2, .int 4), (3, .int hr), (4, .int 5)]) kc_129_6 rfl rfl (xm_lt ml_129 rfl) ?_
  refine xi_aload_n (pc' := 9) (x := 63) kc_129_8 rfl rfl ?_
  refine xi_iload_n (pc' := 10) (x := 4) kc_129_9 rfl rfl ?_
  refine xi_aload (pc' := 12) (x := 23) kc_129_10 rfl rfl ?_
  refine xi_getfield (pc' := 15) (v := .ref 25) kc_129_12 rfl rfl rfl (G0 23 _ rfl hl_23) rfl ?_
  refine xi_iload_n (pc' := 16) (x := hr) kc_129_15 rfl rfl ?_
  refine xi_bipush (pc' := 18) (v := 24) kc_129_16 rfl rfl ?_
  refine xi_static (mj := 3) (as := [.int hr, .int 24]) (st1 := [.ref 25, .int 4, .ref 63]) (lv0 := [(0, .int hr), (1, .int 24)]) kc_129_18 rfl rfl (Nat.le_of_ble_eq_true rfl) rfl rfl (Nat.le_of_ble_eq_true rfl) (hJ _ _ _ _ (by decide)) (xm_le ml_3 rfl) rfl ?_
  refine xi_iload_n (pc' := 1) (x := hr) kc_3_0 rfl rfl ?_
  refine xi_iload_n (pc' := 2) (x := 24) kc_3_1 rfl rfl ?_
  obtain ⟨v1, ev1⟩ : ∃ q : Int32, hr - hr / 24 * 24 = q := ⟨_, rfl⟩
  have dv1 : 0 ≤ v1.toInt ∧ v1.toInt < 24 := by rw [← ev1]; exact xz_rem (X := hr.toInt) (Y := 24) rfl (by decide) (by omega) (by decide)
  refine xi_irem (pc' := 3) (v := v1) kc_3_2 rfl ev1 (by decide) ?_
  refine xi_istore_n (pc' := 4) (lv' := [(2, .int v1), (0, .int hr), (1, .int 24)]) kc_3_3 rfl rfl (xm_lt ml_3 rfl) ?_
  refine xi_iload_n (pc' := 5) (x := hr) kc_3_4 rfl rfl ?_
  refine xi_iload_n (pc' := 6) (x := 24) kc_3_5 rfl rfl ?_
  obtain ⟨v2, ev2⟩ : ∃ q : Int32, hr ^^^ 24 = q := ⟨_, rfl⟩
  have rv2 := xc_rng v2
  have bv2 : 0 ≤ v2.toInt := by rw [← ev2]; exact xz_xor (by first | omega | decide) (by first | omega | decide)
  refine xi_ixor (pc' := 7) (v := v2) kc_3_6 rfl ev2 ?_
  refine xi_ift (pc' := 18) kc_3_7 rfl (xc_ge_t (X := v2.toInt) (Y := 0) rfl (by decide) (by omega)) ?_
  refine xi_iload_n (pc' := 19) (x := v1) kc_3_18 rfl rfl ?_
  refine xi_ireturn kc_3_19 mr_3 rfl ?_
  show xw J ov (d + 4) 129 (21, [(5, .ref 23), (0, .ref 1), (1, .ref 63), (2, .int 4), (3, .int hr), (4, .int 5)], [.int v1, .ref 25, .int 4, .ref 63], h) _
  refine xi_iaload (pc' := 22) (v := 0) kc_129_21 rfl (G0 25 _ rfl hl_25) (by decide) rfl (xi_in (by omega) (by simp only [List.length_replicate]; omega)) (xa_rep (by omega) (by omega)) ?_
  refine xi_virtual (mj := 128) (as := [.int 4, .int 0]) (st1 := []) (lv0 := [(0, .ref 63), (1, .int 4), (2, .int 0)]) kc_129_22 rfl rfl rfl rfl rfl (G0 63 _ rfl hl_63) (Nat.le_of_ble_eq_true rfl) (hJ _ _ _ _ (by decide)) (xm_le ml_128 rfl) rfl ?_
  refine xi_iload_n (pc' := 1) (x := 4) kc_128_0 rfl rfl ?_
  refine xi_iff (pc' := 4) kc_128_1 rfl rfl ?_
  refine xi_iload_n (pc' := 5) (x := 4) kc_128_4 rfl rfl ?_
  refine xi_aload_n (pc' := 6) (x := 63) kc_128_5 rfl rfl ?_
  refine xi_getfield (pc' := 9) (v := .ref 64) kc_128_6 rfl rfl rfl (G0 63 _ rfl hl_63) rfl ?_
  refine xi_arraylength (pc' := 10) (n := 6) (v := 6) kc_128_9 rfl (xl_lenI (by decide) (by decide) A0_64 (by simp only [List.length_replicate, List.length_cons, List.length_nil])) rfl ?_
  refine xi_cmf (pc' := 13) kc_128_10 rfl rfl ?_
  refine xi_aload_n (pc' := 14) (x := 63) kc_128_13 rfl rfl ?_
  refine xi_getfield (pc' := 17) (v := .ref 64) kc_128_14 rfl rfl rfl (G0 63 _ rfl hl_63) rfl ?_
  refine xi_iload_n (pc' := 18) (x := 4) kc_128_17 rfl rfl ?_
  refine xi_iaload (pc' := 19) (v := w4) kc_128_18 rfl A0_64 (by decide) rfl (xi_in (n := 6) (by decide) (by decide)) rfl ?_
  refine xi_iload_n (pc' := 20) (x := 0) kc_128_19 rfl rfl ?_
  obtain ⟨v3, ev3⟩ : ∃ q : Int32, w4 + 0 = q := ⟨_, rfl⟩
  have zv3 : v3.toInt = w4.toInt := by rw [← ev3]; exact (xz_add (X := w4.toInt) (Y := 0) rfl (by decide) (by omega) (by omega)).trans (by omega)
  refine xi_iadd (pc' := 21) (v := v3) kc_128_20 rfl ev3 ?_
  refine xi_istore_n (pc' := 22) (lv' := [(3, .int v3), (0, .ref 63), (1, .int 4), (2, .int 0)]) kc_128_21 rfl rfl (xm_lt ml_128 rfl) ?_
  refine xi_aload_n (pc' := 23) (x := 63) kc_128_22 rfl rfl ?_
  refine xi_getfield (pc' := 26) (v := .ref 64) kc_128_23 rfl rfl rfl (G0 63 _ rfl hl_63) rfl ?_
  refine xi_iload_n (pc' := 27) (x := 4) kc_128_26 rfl rfl ?_
  refine xi_iload_n (pc' := 28) (x := v3) kc_128_27 rfl rfl ?_
  refine xi_ldc (pc' := 30) (v := 99999) kc_128_28 rfl rfl ?_
  refine xi_cmt (pc' := 38) kc_128_30 rfl (xc_le_t (X := w4.toInt) (Y := 99999) zv3 (by decide) (by omega)) ?_
  refine xi_iload_n (pc' := 39) (x := v3) kc_128_38 rfl rfl ?_
  refine xi_iastore (pc' := 40) (x' := [w0, w1, w2, w3, v3, w5]) kc_128_39 rfl A0_64 rfl (xi_in (n := 6) (by decide) (by decide)) rfl (fun hh1 eh1 => ?_)
  have G1 := xg_skip G0 eh1 rfl
  have A1_0 := (eh1.2.1 0 (by decide)).trans A0_0
  have A1_64 := eh1.1
  have n1 := eh1.2.2.1.trans n0
  have z1 := eh1.2.2.2.trans z0
  clear G0 n0 z0 A0_0 A0_64 eh1
  refine xi_return kc_128_40 mr_128 ?_
  show xw J ov (d + 4) 129 (25, [(5, .ref 23), (0, .ref 1), (1, .ref 63), (2, .int 4), (3, .int hr), (4, .int 5)], [], hh1) _
  refine xi_aload_n (pc' := 26) (x := 63) kc_129_25 rfl rfl ?_
  refine xi_getfield (pc' := 29) (v := .ref 64) kc_129_26 rfl rfl rfl (G1 63 _ rfl hl_63) rfl ?_
  refine xi_iload_n (pc' := 30) (x := 4) kc_129_29 rfl rfl ?_
  refine xi_iaload (pc' := 31) (v := v3) kc_129_30 rfl A1_64 (by decide) rfl (xi_in (n := 6) (by decide) (by decide)) rfl ?_
  refine xi_istore (pc' := 33) (lv' := [(6, .int v3), (5, .ref 23), (0, .ref 1), (1, .ref 63), (2, .int 4), (3, .int hr), (4, .int 5)]) kc_129_31 rfl rfl (xm_lt ml_129 rfl) ?_
  refine xi_aload (pc' := 35) (x := 23) kc_129_33 rfl rfl ?_
  refine xi_getfield (pc' := 38) (v := .ref 24) kc_129_35 rfl rfl rfl (G1 23 _ rfl hl_23) rfl ?_
  refine xi_iconst (pc' := 39) (v := 0) kc_129_38 rfl rfl ?_
  refine xi_iaload (pc' := 40) (v := 40) kc_129_39 rfl (G1 24 _ rfl hl_24) (by decide) rfl (xi_in (n := 5) (by decide) (by decide)) rfl ?_
  refine xi_istore (pc' := 42) (lv' := [(7, .int 40), (6, .int v3), (5, .ref 23), (0, .ref 1), (1, .ref 63), (2, .int 4), (3, .int hr), (4, .int 5)]) kc_129_40 rfl rfl (xm_lt ml_129 rfl) ?_
  refine xi_iload (pc' := 44) (x := 40) kc_129_42 rfl rfl ?_
  refine xi_iload (pc' := 46) (x := 5) kc_129_44 rfl rfl ?_
  refine xi_static (mj := 103) (as := [.int 5]) (st1 := [.int 40]) (lv0 := [(0, .int 5)]) kc_129_46 rfl rfl (Nat.le_of_ble_eq_true rfl) rfl rfl (Nat.le_of_ble_eq_true rfl) (hJ _ _ _ _ (by decide)) (xm_le ml_103 rfl) rfl ?_
  refine xi_iload_n (pc' := 1) (x := 5) kc_103_0 rfl rfl ?_
  refine xi_iff (pc' := 4) kc_103_1 rfl rfl ?_
  refine xi_iconst (pc' := 5) (v := 5) kc_103_4 rfl rfl ?_
  refine xi_iload_n (pc' := 6) (x := 5) kc_103_5 rfl rfl ?_
  refine xi_iconst (pc' := 7) (v := 2) kc_103_6 rfl rfl ?_
  refine xi_idiv (pc' := 8) (v := 2) kc_103_7 rfl rfl (by decide) ?_
  refine xi_iadd (pc' := 9) (v := 7) kc_103_8 rfl rfl ?_
  refine xi_iload_n (pc' := 10) (x := 5) kc_103_9 rfl rfl ?_
  refine xi_iload_n (pc' := 11) (x := 5) kc_103_10 rfl rfl ?_
  refine xi_imul (pc' := 12) (v := 25) kc_103_11 rfl rfl ?_
  refine xi_bipush (pc' := 14) (v := 40) kc_103_12 rfl rfl ?_
  refine xi_idiv (pc' := 15) (v := 0) kc_103_14 rfl rfl (by decide) ?_
  refine xi_iadd (pc' := 16) (v := 7) kc_103_15 rfl rfl ?_
  refine xi_ireturn kc_103_16 mr_103 rfl ?_
  show xw J ov (d + 4) 129 (49, [(7, .int 40), (6, .int v3), (5, .ref 23), (0, .ref 1), (1, .ref 63), (2, .int 4), (3, .int hr), (4, .int 5)], [.int 7, .int 40], hh1) _
  refine xi_imul (pc' := 50) (v := 280) kc_129_49 rfl rfl ?_
  refine xi_iconst (pc' := 51) (v := 2) kc_129_50 rfl rfl ?_
  refine xi_idiv (pc' := 52) (v := 140) kc_129_51 rfl rfl (by decide) ?_
  refine xi_istore (pc' := 54) (lv' := [(8, .int 140), (7, .int 40), (6, .int v3), (5, .ref 23), (0, .ref 1), (1, .ref 63), (2, .int 4), (3, .int hr), (4, .int 5)]) kc_129_52 rfl rfl (xm_lt ml_129 rfl) ?_
  refine xi_iload (pc' := 56) (x := v3) kc_129_54 rfl rfl ?_
  refine xi_iload (pc' := 58) (x := v3) kc_129_56 rfl rfl ?_
  refine xi_iload (pc' := 60) (x := 140) kc_129_58 rfl rfl ?_
  obtain ⟨v4, ev4⟩ : ∃ q : Int32, v3 - 140 = q := ⟨_, rfl⟩
  have zv4 : v4.toInt = (w4.toInt + (-140)) := by rw [← ev4]; exact (xz_sub (X := w4.toInt) (Y := 140) zv3 (by decide) (by omega) (by omega)).trans (by omega)
  refine xi_isub (pc' := 61) (v := v4) kc_129_60 rfl ev4 ?_
  refine xi_aload (pc' := 63) (x := 23) kc_129_61 rfl rfl ?_
  refine xi_virtual (mj := 130) (as := []) (st1 := [.int v4, .int v3]) (lv0 := [(0, .ref 23)]) kc_129_63 rfl rfl rfl rfl rfl (G1 23 _ rfl hl_23) (Nat.le_of_ble_eq_true rfl) (hJ _ _ _ _ (by decide)) (xm_le ml_130 rfl) rfl ?_
  refine xi_aload_n (pc' := 1) (x := 23) kc_130_0 rfl rfl ?_
  refine xi_getfield (pc' := 4) (v := .ref 24) kc_130_1 rfl rfl rfl (G1 23 _ rfl hl_23) rfl ?_
  refine xi_iconst (pc' := 5) (v := 2) kc_130_4 rfl rfl ?_
  refine xi_iaload (pc' := 6) (v := 10) kc_130_5 rfl (G1 24 _ rfl hl_24) (by decide) rfl (xi_in (n := 5) (by decide) (by decide)) rfl ?_
  refine xi_aload_n (pc' := 7) (x := 23) kc_130_6 rfl rfl ?_
  refine xi_getfield (pc' := 10) (v := .ref 24) kc_130_7 rfl rfl rfl (G1 23 _ rfl hl_23) rfl ?_
  refine xi_iconst (pc' := 11) (v := 4) kc_130_10 rfl rfl ?_
  refine xi_iaload (pc' := 12) (v := 0) kc_130_11 rfl (G1 24 _ rfl hl_24) (by decide) rfl (xi_in (n := 5) (by decide) (by decide)) rfl ?_
  refine xi_iconst (pc' := 13) (v := 1) kc_130_12 rfl rfl ?_
  refine xi_cmt (pc' := 25) kc_130_13 rfl rfl ?_
  refine xi_iconst (pc' := 26) (v := 0) kc_130_25 rfl rfl ?_
  refine xi_iadd (pc' := 27) (v := 10) kc_130_26 rfl rfl ?_
  refine xi_ireturn kc_130_27 mr_130 rfl ?_
  show xw J ov (d + 4) 129 (66, [(8, .int 140), (7, .int 40), (6, .int v3), (5, .ref 23), (0, .ref 1), (1, .ref 63), (2, .int 4), (3, .int hr), (4, .int 5)], [.int 10, .int v4, .int v3], hh1) _
  obtain ⟨v5, ev5⟩ : ∃ q : Int32, v4 * 10 = q := ⟨_, rfl⟩
  have zv5 : v5.toInt = ((10) * w4.toInt + (-1400)) := by rw [← ev5]; exact (xz_mul (X := (w4.toInt + (-140))) (Y := 10) zv4 (by decide) (by omega) (by omega)).trans (by omega)
  refine xi_imul (pc' := 67) (v := v5) kc_129_66 rfl ev5 ?_
  refine xi_bipush (pc' := 69) (v := 100) kc_129_67 rfl rfl ?_
  obtain ⟨v6, ev6⟩ : ∃ q : Int32, v5 / 100 = q := ⟨_, rfl⟩
  have dv6 : 100 * v6.toInt ≤ ((10) * w4.toInt + (-1400)) + 99 ∧ ((10) * w4.toInt + (-1400)) ≤ 100 * v6.toInt + 99 := by rw [← ev6]; exact xz_div (X := ((10) * w4.toInt + (-1400))) (Y := 100) zv5 (by decide) (by decide)
  have bv6 : -15 ≤ v6.toInt ∧ v6.toInt ≤ 75 := by omega
  refine xi_idiv (pc' := 70) (v := v6) kc_129_69 rfl ev6 (by decide) ?_
  obtain ⟨v7, ev7⟩ : ∃ q : Int32, v3 - v6 = q := ⟨_, rfl⟩
  have zv7 : v7.toInt = (w4.toInt + (-1) * v6.toInt) := by rw [← ev7]; exact (xz_sub (X := w4.toInt) (Y := v6.toInt) zv3 rfl (by omega) (by omega)).trans (by omega)
  have bv7 : 0 ≤ v7.toInt ∧ v7.toInt ≤ 880 := by omega
  refine xi_isub (pc' := 71) (v := v7) kc_129_70 rfl ev7 ?_
  refine xi_istore (pc' := 73) (lv' := [(6, .int v7), (8, .int 140), (7, .int 40), (5, .ref 23), (0, .ref 1), (1, .ref 63), (2, .int 4), (3, .int hr), (4, .int 5)]) kc_129_71 rfl rfl (xm_lt ml_129 rfl) ?_
  refine xi_aload (pc' := 75) (x := 23) kc_129_73 rfl rfl ?_
  refine xi_getfield (pc' := 78) (v := .ref 24) kc_129_75 rfl rfl rfl (G1 23 _ rfl hl_23) rfl ?_
  refine xi_iconst (pc' := 79) (v := 1) kc_129_78 rfl rfl ?_
  refine xi_iaload (pc' := 80) (v := 18) kc_129_79 rfl (G1 24 _ rfl hl_24) (by decide) rfl (xi_in (n := 5) (by decide) (by decide)) rfl ?_
  refine xi_istore (pc' := 82) (lv' := [(9, .int 18), (6, .int v7), (8, .int 140), (7, .int 40), (5, .ref 23), (0, .ref 1), (1, .ref 63), (2, .int 4), (3, .int hr), (4, .int 5)]) kc_129_80 rfl rfl (xm_lt ml_129 rfl) ?_
  refine xi_iload (pc' := 84) (x := 40) kc_129_82 rfl rfl ?_
  refine xi_iload (pc' := 86) (x := 18) kc_129_84 rfl rfl ?_
  refine xi_static (mj := 103) (as := [.int 18]) (st1 := [.int 40]) (lv0 := [(0, .int 18)]) kc_129_86 rfl rfl (Nat.le_of_ble_eq_true rfl) rfl rfl (Nat.le_of_ble_eq_true rfl) (hJ _ _ _ _ (by decide)) (xm_le ml_103 rfl) rfl ?_
  refine xi_iload_n (pc' := 1) (x := 18) kc_103_0 rfl rfl ?_
  refine xi_iff (pc' := 4) kc_103_1 rfl rfl ?_
  refine xi_iconst (pc' := 5) (v := 5) kc_103_4 rfl rfl ?_
  refine xi_iload_n (pc' := 6) (x := 18) kc_103_5 rfl rfl ?_
  refine xi_iconst (pc' := 7) (v := 2) kc_103_6 rfl rfl ?_
  refine xi_idiv (pc' := 8) (v := 9) kc_103_7 rfl rfl (by decide) ?_
  refine xi_iadd (pc' := 9) (v := 14) kc_103_8 rfl rfl ?_
  refine xi_iload_n (pc' := 10) (x := 18) kc_103_9 rfl rfl ?_
  refine xi_iload_n (pc' := 11) (x := 18) kc_103_10 rfl rfl ?_
  refine xi_imul (pc' := 12) (v := 324) kc_103_11 rfl rfl ?_
  refine xi_bipush (pc' := 14) (v := 40) kc_103_12 rfl rfl ?_
  refine xi_idiv (pc' := 15) (v := 8) kc_103_14 rfl rfl (by decide) ?_
  refine xi_iadd (pc' := 16) (v := 22) kc_103_15 rfl rfl ?_
  refine xi_ireturn kc_103_16 mr_103 rfl ?_
  show xw J ov (d + 4) 129 (89, [(9, .int 18), (6, .int v7), (8, .int 140), (7, .int 40), (5, .ref 23), (0, .ref 1), (1, .ref 63), (2, .int 4), (3, .int hr), (4, .int 5)], [.int 22, .int 40], hh1) _
  refine xi_imul (pc' := 90) (v := 880) kc_129_89 rfl rfl ?_
  refine xi_istore (pc' := 92) (lv' := [(10, .int 880), (9, .int 18), (6, .int v7), (8, .int 140), (7, .int 40), (5, .ref 23), (0, .ref 1), (1, .ref 63), (2, .int 4), (3, .int hr), (4, .int 5)]) kc_129_90 rfl rfl (xm_lt ml_129 rfl) ?_
  refine xi_iload (pc' := 94) (x := v7) kc_129_92 rfl rfl ?_
  refine xi_iload (pc' := 96) (x := 880) kc_129_94 rfl rfl ?_
  refine xi_cmt (pc' := 119) kc_129_96 rfl (xc_le_t (X := v7.toInt) (Y := 880) rfl (by decide) (by omega)) ?_
  refine xi_aload_n (pc' := 120) (x := 63) kc_129_119 rfl rfl ?_
  refine xi_getfield (pc' := 123) (v := .ref 64) kc_129_120 rfl rfl rfl (G1 63 _ rfl hl_63) rfl ?_
  refine xi_iload_n (pc' := 124) (x := 4) kc_129_123 rfl rfl ?_
  refine xi_iload (pc' := 126) (x := v7) kc_129_124 rfl rfl ?_
  refine xi_iastore (pc' := 127) (x' := [w0, w1, w2, w3, v7, w5]) kc_129_126 rfl A1_64 rfl (xi_in (n := 6) (by decide) (by decide)) rfl (fun hh2 eh2 => ?_)
  have G2 := xg_skip G1 eh2 rfl
  have A2_0 := (eh2.2.1 0 (by decide)).trans A1_0
  have A2_64 := eh2.1
  have n2 := eh2.2.2.1.trans n1
  have z2 := eh2.2.2.2.trans z1
  clear G1 n1 z1 A1_0 A1_64 eh2
  refine xi_return kc_129_127 mr_129 ?_
  exact kk w0 w1 w2 w3 v7 w5 hh2 (by first | omega | decide) (by first | omega | decide) (by first | omega | decide) (by first | omega | decide) (by first | omega | decide) (by first | omega | decide) (by first | omega | decide) (by first | omega | decide) (by first | omega | decide) (by first | omega | decide) (by first | omega | decide) (by first | omega | decide) G2 A2_0 A2_64 n2 z2
set_option maxHeartbeats 8000000 in
set_option maxRecDepth 20000 in
theorem ha_air5 {J : xe_J} {ov : List (List Int32)} {d N Z : Nat} (hJ : ∀ d mj as h, mj ≠ xe_loff → J d mj as h = none) {Q : Option Value → xe_H → Prop} {hr w0 w1 w2 w3 w4 w5 : Int32} {h : xe_H} (h_0 : 0 ≤ w0.toInt) (h_1 : 0 ≤ w1.toInt) (h_2 : 0 ≤ w2.toInt) (h_3 : 0 ≤ w3.toInt) (h_4 : 0 ≤ w4.toInt) (h_5 : 0 ≤ w5.toInt) (h_6 : w0.toInt ≤ 880) (h_7 : w1.toInt ≤ 880) (h_8 : w2.toInt ≤ 880) (h_9 : w3.toInt ≤ 880) (h_10 : w4.toInt ≤ 880) (h_11 : w5.toInt ≤ 880) (h_12 : 0 ≤ hr.toInt) (h_13 : hr.toInt ≤ 599) (G0 : xg [0, 64] h) (A0_0 : h[0]? = some (.inr (0, [.ref 1, .ref 63, .ref 66, .ref 75, .ref 80, .ref 85, .ref 93, .ref 94, .int 0, .int hr]))) (A0_64 : h[64]? = some (.inl (0, .inl ([w0, w1, w2, w3, w4, w5])))) (n0 : h.length = N) (z0 : xe_sz h = Z) (kk : ∀ (w0_ w1_ w2_ w3_ w4_ w5_ : Int32) (h1 : xe_H), 0 ≤ w0_.toInt → 0 ≤ w1_.toInt → 0 ≤ w2_.toInt → 0 ≤ w3_.toInt → 0 ≤ w4_.toInt → 0 ≤ w5_.toInt → w0_.toInt ≤ 880 → w1_.toInt ≤ 880 → w2_.toInt ≤ 880 → w3_.toInt ≤ 880 → w4_.toInt ≤ 880 → w5_.toInt ≤ 880 → xg [0, 64] h1 → h1[0]? = some (.inr (0, [.ref 1, .ref 63, .ref 66, .ref 75, .ref 80, .ref 85, .ref 93, .ref 94, .int 0, .int hr])) → h1[64]? = some (.inl (0, .inl ([w0_, w1_, w2_, w3_, w4_, w5_]))) → h1.length = N → xe_sz h1 = Z → Q (none) h1) : xw J ov (d + 4) 129 (0, [(0, .ref 1), (1, .ref 63), (2, .int 5), (3, .int hr), (4, .int 5)], [], h) Q := by
  refine xi_aload_n (pc' := 1) (x := 1) kc_129_0 rfl rfl ?_
  refine xi_getfield (pc' := 4) (v := .ref 2) kc_129_1 rfl rfl rfl (G0 1 _ rfl hl_1) rfl ?_
  refine xi_iload_n (pc' := 5) (x := 5) kc_129_4 rfl rfl ?_
  refine xi_aaload (pc' := 6) (b := 26) kc_129_5 rfl (G0 2 _ rfl hl_2) rfl (xi_in (n := 6) (by decide) (by decide)) rfl ?_
  refine xi_astore (pc' := 8) (lv' := [(5, .ref 26), (0, .ref 1), (1, .ref 63), (2, .int 5), (3, .int hr), (4, .int 5)]) kc_129_6 rfl rfl (xm_lt ml_129 rfl) ?_
  refine xi_aload_n (pc' := 9) (x := 63) kc_129_8 rfl rfl ?_
  refine xi_iload_n (pc' := 10) (x := 5) kc_129_9 rfl rfl ?_
  refine xi_aload (pc' := 12) (x := 26) kc_129_10 rfl rfl ?_
  refine xi_getfield (pc' := 15) (v := .ref 28) kc_129_12 rfl rfl rfl (G0 26 _ rfl hl_26) rfl ?_
  refine xi_iload_n (pc' := 16) (x := hr) kc_129_15 rfl rfl ?_
  refine xi_bipush (pc' := 18) (v := 24) kc_129_16 rfl rfl ?_
  refine xi_static (mj := 3) (as := [.int hr, .int 24]) (st1 := [.ref 28, .int 5, .ref 63]) (lv0 := [(0, .int hr), (1, .int 24)]) kc_129_18 rfl rfl (Nat.le_of_ble_eq_true rfl) rfl rfl (Nat.le_of_ble_eq_true rfl) (hJ _ _ _ _ (by decide)) (xm_le ml_3 rfl) rfl ?_
  refine xi_iload_n (pc' := 1) (x := hr) kc_3_0 rfl rfl ?_
  refine xi_iload_n (pc' := 2) (x := 24) kc_3_1 rfl rfl ?_
  obtain ⟨v1, ev1⟩ : ∃ q : Int32, hr - hr / 24 * 24 = q := ⟨_, rfl⟩
  have dv1 : 0 ≤ v1.toInt ∧ v1.toInt < 24 := by rw [← ev1]; exact xz_rem (X := hr.toInt) (Y := 24) rfl (by decide) (by omega) (by decide)
  refine xi_irem (pc' := 3) (v := v1) kc_3_2 rfl ev1 (by decide) ?_
  refine xi_istore_n (pc' := 4) (lv' := [(2, .int v1), (0, .int hr), (1, .int 24)]) kc_3_3 rfl rfl (xm_lt ml_3 rfl) ?_
  refine xi_iload_n (pc' := 5) (x := hr) kc_3_4 rfl rfl ?_
  refine xi_iload_n (pc' := 6) (x := 24) kc_3_5 rfl rfl ?_
  obtain ⟨v2, ev2⟩ : ∃ q : Int32, hr ^^^ 24 = q := ⟨_, rfl⟩
  have rv2 := xc_rng v2
  have bv2 : 0 ≤ v2.toInt := by rw [← ev2]; exact xz_xor (by first | omega | decide) (by first | omega | decide)
  refine xi_ixor (pc' := 7) (v := v2) kc_3_6 rfl ev2 ?_
  refine xi_ift (pc' := 18) kc_3_7 rfl (xc_ge_t (X := v2.toInt) (Y := 0) rfl (by decide) (by omega)) ?_
  refine xi_iload_n (pc' := 19) (x := v1) kc_3_18 rfl rfl ?_
  refine xi_ireturn kc_3_19 mr_3 rfl ?_
  show xw J ov (d + 4) 129 (21, [(5, .ref 26), (0, .ref 1), (1, .ref 63), (2, .int 5), (3, .int hr), (4, .int 5)], [.int v1, .ref 28, .int 5, .ref 63], h) _
  refine xi_iaload (pc' := 22) (v := 0) kc_129_21 rfl (G0 28 _ rfl hl_28) (by decide) rfl (xi_in (by omega) (by simp only [List.length_replicate]; omega)) (xa_rep (by omega) (by omega)) ?_
  refine xi_virtual (mj := 128) (as := [.int 5, .int 0]) (st1 := []) (lv0 := [(0, .ref 63), (1, .int 5), (2, .int 0)]) kc_129_22 rfl rfl rfl rfl rfl (G0 63 _ rfl hl_63) (Nat.le_of_ble_eq_true rfl) (hJ _ _ _ _ (by decide)) (xm_le ml_128 rfl) rfl ?_
  refine xi_iload_n (pc' := 1) (x := 5) kc_128_0 rfl rfl ?_
  refine xi_iff (pc' := 4) kc_128_1 rfl rfl ?_
  refine xi_iload_n (pc' := 5) (x := 5) kc_128_4 rfl rfl ?_
  refine xi_aload_n (pc' := 6) (x := 63) kc_128_5 rfl rfl ?_
  refine xi_getfield (pc' := 9) (v := .ref 64) kc_128_6 rfl rfl rfl (G0 63 _ rfl hl_63) rfl ?_
  refine xi_arraylength (pc' := 10) (n := 6) (v := 6) kc_128_9 rfl (xl_lenI (by decide) (by decide) A0_64 (by simp only [List.length_replicate, List.length_cons, List.length_nil])) rfl ?_
  refine xi_cmf (pc' := 13) kc_128_10 rfl rfl ?_
  refine xi_aload_n (pc' := 14) (x := 63) kc_128_13 rfl rfl ?_
  refine xi_getfield (pc' := 17) (v := .ref 64) kc_128_14 rfl rfl rfl (G0 63 _ rfl hl_63) rfl ?_
  refine xi_iload_n (pc' := 18) (x := 5) kc_128_17 rfl rfl ?_
  refine xi_iaload (pc' := 19) (v := w5) kc_128_18 rfl A0_64 (by decide) rfl (xi_in (n := 6) (by decide) (by decide)) rfl ?_
  refine xi_iload_n (pc' := 20) (x := 0) kc_128_19 rfl rfl ?_
  obtain ⟨v3, ev3⟩ : ∃ q : Int32, w5 + 0 = q := ⟨_, rfl⟩
  have zv3 : v3.toInt = w5.toInt := by rw [← ev3]; exact (xz_add (X := w5.toInt) (Y := 0) rfl (by decide) (by omega) (by omega)).trans (by omega)
  refine xi_iadd (pc' := 21) (v := v3) kc_128_20 rfl ev3 ?_
  refine xi_istore_n (pc' := 22) (lv' := [(3, .int v3), (0, .ref 63), (1, .int 5), (2, .int 0)]) kc_128_21 rfl rfl (xm_lt ml_128 rfl) ?_
  refine xi_aload_n (pc' := 23) (x := 63) kc_128_22 rfl rfl ?_
  refine xi_getfield (pc' := 26) (v := .ref 64) kc_128_23 rfl rfl rfl (G0 63 _ rfl hl_63) rfl ?_
  refine xi_iload_n (pc' := 27) (x := 5) kc_128_26 rfl rfl ?_
  refine xi_iload_n (pc' := 28) (x := v3) kc_128_27 rfl rfl ?_
  refine xi_ldc (pc' := 30) (v := 99999) kc_128_28 rfl rfl ?_
  refine xi_cmt (pc' := 38) kc_128_30 rfl (xc_le_t (X := w5.toInt) (Y := 99999) zv3 (by decide) (by omega)) ?_
  refine xi_iload_n (pc' := 39) (x := v3) kc_128_38 rfl rfl ?_
  refine xi_iastore (pc' := 40) (x' := [w0, w1, w2, w3, w4, v3]) kc_128_39 rfl A0_64 rfl (xi_in (n := 6) (by decide) (by decide)) rfl (fun hh1 eh1 => ?_)
  have G1 := xg_skip G0 eh1 rfl
  have A1_0 := (eh1.2.1 0 (by decide)).trans A0_0
  have A1_64 := eh1.1
  have n1 := eh1.2.2.1.trans n0
  have z1 := eh1.2.2.2.trans z0
  clear G0 n0 z0 A0_0 A0_64 eh1
  refine xi_return kc_128_40 mr_128 ?_
  show xw J ov (d + 4) 129 (25, [(5, .ref 26), (0, .ref 1), (1, .ref 63), (2, .int 5), (3, .int hr), (4, .int 5)], [], hh1) _
  refine xi_aload_n (pc' := 26) (x := 63) kc_129_25 rfl rfl ?_
  refine xi_getfield (pc' := 29) (v := .ref 64) kc_129_26 rfl rfl rfl (G1 63 _ rfl hl_63) rfl ?_
  refine xi_iload_n (pc' := 30) (x := 5) kc_129_29 rfl rfl ?_
  refine xi_iaload (pc' := 31) (v := v3) kc_129_30 rfl A1_64 (by decide) rfl (xi_in (n := 6) (by decide) (by decide)) rfl ?_
  refine xi_istore (pc' := 33) (lv' := [(6, .int v3), (5, .ref 26), (0, .ref 1), (1, .ref 63), (2, .int 5), (3, .int hr), (4, .int 5)]) kc_129_31 rfl rfl (xm_lt ml_129 rfl) ?_
  refine xi_aload (pc' := 35) (x := 26) kc_129_33 rfl rfl ?_
  refine xi_getfield (pc' := 38) (v := .ref 27) kc_129_35 rfl rfl rfl (G1 26 _ rfl hl_26) rfl ?_
  refine xi_iconst (pc' := 39) (v := 0) kc_129_38 rfl rfl ?_
  refine xi_iaload (pc' := 40) (v := 40) kc_129_39 rfl (G1 27 _ rfl hl_27) (by decide) rfl (xi_in (n := 5) (by decide) (by decide)) rfl ?_
  refine xi_istore (pc' := 42) (lv' := [(7, .int 40), (6, .int v3), (5, .ref 26), (0, .ref 1), (1, .ref 63), (2, .int 5), (3, .int hr), (4, .int 5)]) kc_129_40 rfl rfl (xm_lt ml_129 rfl) ?_
  refine xi_iload (pc' := 44) (x := 40) kc_129_42 rfl rfl ?_
  refine xi_iload (pc' := 46) (x := 5) kc_129_44 rfl rfl ?_
  refine xi_static (mj := 103) (as := [.int 5]) (st1 := [.int 40]) (lv0 := [(0, .int 5)]) kc_129_46 rfl rfl (Nat.le_of_ble_eq_true rfl) rfl rfl (Nat.le_of_ble_eq_true rfl) (hJ _ _ _ _ (by decide)) (xm_le ml_103 rfl) rfl ?_
  refine xi_iload_n (pc' := 1) (x := 5) kc_103_0 rfl rfl ?_
  refine xi_iff (pc' := 4) kc_103_1 rfl rfl ?_
  refine xi_iconst (pc' := 5) (v := 5) kc_103_4 rfl rfl ?_
  refine xi_iload_n (pc' := 6) (x := 5) kc_103_5 rfl rfl ?_
  refine xi_iconst (pc' := 7) (v := 2) kc_103_6 rfl rfl ?_
  refine xi_idiv (pc' := 8) (v := 2) kc_103_7 rfl rfl (by decide) ?_
  refine xi_iadd (pc' := 9) (v := 7) kc_103_8 rfl rfl ?_
  refine xi_iload_n (pc' := 10) (x := 5) kc_103_9 rfl rfl ?_
  refine xi_iload_n (pc' := 11) (x := 5) kc_103_10 rfl rfl ?_
  refine xi_imul (pc' := 12) (v := 25) kc_103_11 rfl rfl ?_
  refine xi_bipush (pc' := 14) (v := 40) kc_103_12 rfl rfl ?_
  refine xi_idiv (pc' := 15) (v := 0) kc_103_14 rfl rfl (by decide) ?_
  refine xi_iadd (pc' := 16) (v := 7) kc_103_15 rfl rfl ?_
  refine xi_ireturn kc_103_16 mr_103 rfl ?_
  show xw J ov (d + 4) 129 (49, [(7, .int 40), (6, .int v3), (5, .ref 26), (0, .ref 1), (1, .ref 63), (2, .int 5), (3, .int hr), (4, .int 5)], [.int 7, .int 40], hh1) _
  refine xi_imul (pc' := 50) (v := 280) kc_129_49 rfl rfl ?_
  refine xi_iconst (pc' := 51) (v := 2) kc_129_50 rfl rfl ?_
  refine xi_idiv (pc' := 52) (v := 140) kc_129_51 rfl rfl (by decide) ?_
  refine xi_istore (pc' := 54) (lv' := [(8, .int 140), (7, .int 40), (6, .int v3), (5, .ref 26), (0, .ref 1), (1, .ref 63), (2, .int 5), (3, .int hr), (4, .int 5)]) kc_129_52 rfl rfl (xm_lt ml_129 rfl) ?_
  refine xi_iload (pc' := 56) (x := v3) kc_129_54 rfl rfl ?_
  refine xi_iload (pc' := 58) (x := v3) kc_129_56 rfl rfl ?_
  refine xi_iload (pc' := 60) (x := 140) kc_129_58 rfl rfl ?_
  obtain ⟨v4, ev4⟩ : ∃ q : Int32, v3 - 140 = q := ⟨_, rfl⟩
  have zv4 : v4.toInt = (w5.toInt + (-140)) := by rw [← ev4]; exact (xz_sub (X := w5.toInt) (Y := 140) zv3 (by decide) (by omega) (by omega)).trans (by omega)
  refine xi_isub (pc' := 61) (v := v4) kc_129_60 rfl ev4 ?_
  refine xi_aload (pc' := 63) (x := 26) kc_129_61 rfl rfl ?_
  refine xi_virtual (mj := 130) (as := []) (st1 := [.int v4, .int v3]) (lv0 := [(0, .ref 26)]) kc_129_63 rfl rfl rfl rfl rfl (G1 26 _ rfl hl_26) (Nat.le_of_ble_eq_true rfl) (hJ _ _ _ _ (by decide)) (xm_le ml_130 rfl) rfl ?_
  refine xi_aload_n (pc' := 1) (x := 26) kc_130_0 rfl rfl ?_
  refine xi_getfield (pc' := 4) (v := .ref 27) kc_130_1 rfl rfl rfl (G1 26 _ rfl hl_26) rfl ?_
  refine xi_iconst (pc' := 5) (v := 2) kc_130_4 rfl rfl ?_
  refine xi_iaload (pc' := 6) (v := 10) kc_130_5 rfl (G1 27 _ rfl hl_27) (by decide) rfl (xi_in (n := 5) (by decide) (by decide)) rfl ?_
  refine xi_aload_n (pc' := 7) (x := 26) kc_130_6 rfl rfl ?_
  refine xi_getfield (pc' := 10) (v := .ref 27) kc_130_7 rfl rfl rfl (G1 26 _ rfl hl_26) rfl ?_
  refine xi_iconst (pc' := 11) (v := 4) kc_130_10 rfl rfl ?_
  refine xi_iaload (pc' := 12) (v := 0) kc_130_11 rfl (G1 27 _ rfl hl_27) (by decide) rfl (xi_in (n := 5) (by decide) (by decide)) rfl ?_
  refine xi_iconst (pc' := 13) (v := 1) kc_130_12 rfl rfl ?_
  refine xi_cmt (pc' := 25) kc_130_13 rfl rfl ?_
  refine xi_iconst (pc' := 26) (v := 0) kc_130_25 rfl rfl ?_
  refine xi_iadd (pc' := 27) (v := 10) kc_130_26 rfl rfl ?_
  refine xi_ireturn kc_130_27 mr_130 rfl ?_
  show xw J ov (d + 4) 129 (66, [(8, .int 140), (7, .int 40), (6, .int v3), (5, .ref 26), (0, .ref 1), (1, .ref 63), (2, .int 5), (3, .int hr), (4, .int 5)], [.int 10, .int v4, .int v3], hh1) _
  obtain ⟨v5, ev5⟩ : ∃ q : Int32, v4 * 10 = q := ⟨_, rfl⟩
  have zv5 : v5.toInt = ((10) * w5.toInt + (-1400)) := by rw [← ev5]; exact (xz_mul (X := (w5.toInt + (-140))) (Y := 10) zv4 (by decide) (by omega) (by omega)).trans (by omega)
  refine xi_imul (pc' := 67) (v := v5) kc_129_66 rfl ev5 ?_
  refine xi_bipush (pc' := 69) (v := 100) kc_129_67 rfl rfl ?_
  obtain ⟨v6, ev6⟩ : ∃ q : Int32, v5 / 100 = q := ⟨_, rfl⟩
  have dv6 : 100 * v6.toInt ≤ ((10) * w5.toInt + (-1400)) + 99 ∧ ((10) * w5.toInt + (-1400)) ≤ 100 * v6.toInt + 99 := by rw [← ev6]; exact xz_div (X := ((10) * w5.toInt + (-1400))) (Y := 100) zv5 (by decide) (by decide)
  have bv6 : -15 ≤ v6.toInt ∧ v6.toInt ≤ 75 := by omega
  refine xi_idiv (pc' := 70) (v := v6) kc_129_69 rfl ev6 (by decide) ?_
  obtain ⟨v7, ev7⟩ : ∃ q : Int32, v3 - v6 = q := ⟨_, rfl⟩
  have zv7 : v7.toInt = (w5.toInt + (-1) * v6.toInt) := by rw [← ev7]; exact (xz_sub (X := w5.toInt) (Y := v6.toInt) zv3 rfl (by omega) (by omega)).trans (by omega)
  have bv7 : 0 ≤ v7.toInt ∧ v7.toInt ≤ 880 := by omega
  refine xi_isub (pc' := 71) (v := v7) kc_129_70 rfl ev7 ?_
  refine xi_istore (pc' := 73) (lv' := [(6, .int v7), (8, .int 140), (7, .int 40), (5, .ref 26), (0, .ref 1), (1, .ref 63), (2, .int 5), (3, .int hr), (4, .int 5)]) kc_129_71 rfl rfl (xm_lt ml_129 rfl) ?_
  refine xi_aload (pc' := 75) (x := 26) kc_129_73 rfl rfl ?_
  refine xi_getfield (pc' := 78) (v := .ref 27) kc_129_75 rfl rfl rfl (G1 26 _ rfl hl_26) rfl ?_
  refine xi_iconst (pc' := 79) (v := 1) kc_129_78 rfl rfl ?_
  refine xi_iaload (pc' := 80) (v := 18) kc_129_79 rfl (G1 27 _ rfl hl_27) (by decide) rfl (xi_in (n := 5) (by decide) (by decide)) rfl ?_
  refine xi_istore (pc' := 82) (lv' := [(9, .int 18), (6, .int v7), (8, .int 140), (7, .int 40), (5, .ref 26), (0, .ref 1), (1, .ref 63), (2, .int 5), (3, .int hr), (4, .int 5)]) kc_129_80 rfl rfl (xm_lt ml_129 rfl) ?_
  refine xi_iload (pc' := 84) (x := 40) kc_129_82 rfl rfl ?_
  refine xi_iload (pc' := 86) (x := 18) kc_129_84 rfl rfl ?_
  refine xi_static (mj := 103) (as := [.int 18]) (st1 := [.int 40]) (lv0 := [(0, .int 18)]) kc_129_86 rfl rfl (Nat.le_of_ble_eq_true rfl) rfl rfl (Nat.le_of_ble_eq_true rfl) (hJ _ _ _ _ (by decide)) (xm_le ml_103 rfl) rfl ?_
  refine xi_iload_n (pc' := 1) (x := 18) kc_103_0 rfl rfl ?_
  refine xi_iff (pc' := 4) kc_103_1 rfl rfl ?_
  refine xi_iconst (pc' := 5) (v := 5) kc_103_4 rfl rfl ?_
  refine xi_iload_n (pc' := 6) (x := 18) kc_103_5 rfl rfl ?_
  refine xi_iconst (pc' := 7) (v := 2) kc_103_6 rfl rfl ?_
  refine xi_idiv (pc' := 8) (v := 9) kc_103_7 rfl rfl (by decide) ?_
  refine xi_iadd (pc' := 9) (v := 14) kc_103_8 rfl rfl ?_
  refine xi_iload_n (pc' := 10) (x := 18) kc_103_9 rfl rfl ?_
  refine xi_iload_n (pc' := 11) (x := 18) kc_103_10 rfl rfl ?_
  refine xi_imul (pc' := 12) (v := 324) kc_103_11 rfl rfl ?_
  refine xi_bipush (pc' := 14) (v := 40) kc_103_12 rfl rfl ?_
  refine xi_idiv (pc' := 15) (v := 8) kc_103_14 rfl rfl (by decide) ?_
  refine xi_iadd (pc' := 16) (v := 22) kc_103_15 rfl rfl ?_
  refine xi_ireturn kc_103_16 mr_103 rfl ?_
  show xw J ov (d + 4) 129 (89, [(9, .int 18), (6, .int v7), (8, .int 140), (7, .int 40), (5, .ref 26), (0, .ref 1), (1, .ref 63), (2, .int 5), (3, .int hr), (4, .int 5)], [.int 22, .int 40], hh1) _
  refine xi_imul (pc' := 90) (v := 880) kc_129_89 rfl rfl ?_
  refine xi_istore (pc' := 92) (lv' := [(10, .int 880), (9, .int 18), (6, .int v7), (8, .int 140), (7, .int 40), (5, .ref 26), (0, .ref 1), (1, .ref 63), (2, .int 5), (3, .int hr), (4, .int 5)]) kc_129_90 rfl rfl (xm_lt ml_129 rfl) ?_
  refine xi_iload (pc' := 94) (x := v7) kc_129_92 rfl rfl ?_
  refine xi_iload (pc' := 96) (x := 880) kc_129_94 rfl rfl ?_
  refine xi_cmt (pc' := 119) kc_129_96 rfl (xc_le_t (X := v7.toInt) (Y := 880) rfl (by decide) (by omega)) ?_
  refine xi_aload_n (pc' := 120) (x := 63) kc_129_119 rfl rfl ?_
  refine xi_getfield (pc' := 123) (v := .ref 64) kc_129_120 rfl rfl rfl (G1 63 _ rfl hl_63) rfl ?_
  refine xi_iload_n (pc' := 124) (x := 5) kc_129_123 rfl rfl ?_
  refine xi_iload (pc' := 126) (x := v7) kc_129_124 rfl rfl ?_
  refine xi_iastore (pc' := 127) (x' := [w0, w1, w2, w3, w4, v7]) kc_129_126 rfl A1_64 rfl (xi_in (n := 6) (by decide) (by decide)) rfl (fun hh2 eh2 => ?_)
  have G2 := xg_skip G1 eh2 rfl
  have A2_0 := (eh2.2.1 0 (by decide)).trans A1_0
  have A2_64 := eh2.1
  have n2 := eh2.2.2.1.trans n1
  have z2 := eh2.2.2.2.trans z1
  clear G1 n1 z1 A1_0 A1_64 eh2
  refine xi_return kc_129_127 mr_129 ?_
  exact kk w0 w1 w2 w3 w4 v7 hh2 (by first | omega | decide) (by first | omega | decide) (by first | omega | decide) (by first | omega | decide) (by first | omega | decide) (by first | omega | decide) (by first | omega | decide) (by first | omega | decide) (by first | omega | decide) (by first | omega | decide) (by first | omega | decide) (by first | omega | decide) G2 A2_0 A2_64 n2 z2
set_option maxHeartbeats 8000000 in
set_option maxRecDepth 20000 in
theorem ha_pass {J : xe_J} {ov : List (List Int32)} {d N Z : Nat} (hJ : ∀ d mj as h, mj ≠ xe_loff → J d mj as h = none) {Q : Option Value → xe_H → Prop} {hr w0 w1 w2 w3 w4 w5 : Int32} {h : xe_H} (h_0 : 0 ≤ w0.toInt) (h_1 : 0 ≤ w1.toInt) (h_2 : 0 ≤ w2.toInt) (h_3 : 0 ≤ w3.toInt) (h_4 : 0 ≤ w4.toInt) (h_5 : 0 ≤ w5.toInt) (h_6 : w0.toInt ≤ 880) (h_7 : w1.toInt ≤ 880) (h_8 : w2.toInt ≤ 880) (h_9 : w3.toInt ≤ 880) (h_10 : w4.toInt ≤ 880) (h_11 : w5.toInt ≤ 880) (h_12 : 0 ≤ hr.toInt) (h_13 : hr.toInt ≤ 599) (G0 : xg [0, 64] h) (A0_0 : h[0]? = some (.inr (0, [.ref 1, .ref 63, .ref 66, .ref 75, .ref 80, .ref 85, .ref 93, .ref 94, .int 0, .int hr]))) (A0_64 : h[64]? = some (.inl (0, .inl ([w0, w1, w2, w3, w4, w5])))) (n0 : h.length = N) (z0 : xe_sz h = Z) (kk : ∀ (w0_ w1_ w2_ w3_ w4_ w5_ : Int32) (h1 : xe_H), 0 ≤ w0_.toInt → 0 ≤ w1_.toInt → 0 ≤ w2_.toInt → 0 ≤ w3_.toInt → 0 ≤ w4_.toInt → 0 ≤ w5_.toInt → w0_.toInt ≤ 880 → w1_.toInt ≤ 880 → w2_.toInt ≤ 880 → w3_.toInt ≤ 880 → w4_.toInt ≤ 880 → w5_.toInt ≤ 880 → xg [0, 64] h1 → h1[0]? = some (.inr (0, [.ref 1, .ref 63, .ref 66, .ref 75, .ref 80, .ref 85, .ref 93, .ref 94, .int 0, .int hr])) → h1[64]? = some (.inl (0, .inl ([w0_, w1_, w2_, w3_, w4_, w5_]))) → h1.length = N → xe_sz h1 = Z → Q (none) h1) : xw J ov (d + 8) 125 (0, [(0, .ref 1), (1, .ref 63), (2, .int hr)], [], h) Q := by
  refine xi_aload_n (pc' := 1) (x := 1) kc_125_0 rfl rfl ?_
  refine xi_getfield (pc' := 4) (v := .ref 5) kc_125_1 rfl rfl rfl (G0 1 _ rfl hl_1) rfl ?_
  refine xi_iload_n (pc' := 5) (x := hr) kc_125_4 rfl rfl ?_
  refine xi_virtual (mj := 100) (as := [.int hr]) (st1 := []) (lv0 := [(0, .ref 5), (1, .int hr)]) kc_125_5 rfl rfl rfl rfl rfl (G0 5 _ rfl hl_5) (Nat.le_of_ble_eq_true rfl) (hJ _ _ _ _ (by decide)) (xm_le ml_100 rfl) rfl ?_
  refine xi_iload_n (pc' := 1) (x := hr) kc_100_0 rfl rfl ?_
  refine xi_iff (pc' := 4) kc_100_1 rfl (xc_lt_f (X := hr.toInt) (Y := 0) rfl (by decide) (by omega)) ?_
  refine xi_iload_n (pc' := 5) (x := hr) kc_100_4 rfl rfl ?_
  refine xi_aload_n (pc' := 6) (x := 5) kc_100_5 rfl rfl ?_
  refine xi_getfield (pc' := 9) (v := .ref 7) kc_100_6 rfl rfl rfl (G0 5 _ rfl hl_5) rfl ?_
  refine xi_arraylength (pc' := 10) (n := 601) (v := 601) kc_100_9 rfl (xl_lenI (by decide) (by decide) (G0 7 _ rfl hl_7) (by simp only [List.length_replicate, List.length_cons, List.length_nil])) rfl ?_
  refine xi_cmt (pc' := 20) kc_100_10 rfl (xc_lt_t (X := hr.toInt) (Y := 601) rfl (by decide) (by omega)) ?_
  refine xi_aload_n (pc' := 21) (x := 5) kc_100_20 rfl rfl ?_
  refine xi_getfield (pc' := 24) (v := .ref 7) kc_100_21 rfl rfl rfl (G0 5 _ rfl hl_5) rfl ?_
  refine xi_iload_n (pc' := 25) (x := hr) kc_100_24 rfl rfl ?_
  refine xi_iaload (pc' := 26) (v := 5) kc_100_25 rfl (G0 7 _ rfl hl_7) (by decide) rfl (xi_in (by omega) (by simp only [List.length_replicate]; omega)) (xa_rep (by omega) (by omega)) ?_
  refine xi_ireturn kc_100_26 mr_100 rfl ?_
  show xw J ov (d + 8) 125 (8, [(0, .ref 1), (1, .ref 63), (2, .int hr)], [.int 5], h) _
  refine xi_istore_n (pc' := 9) (lv' := [(3, .int 5), (0, .ref 1), (1, .ref 63), (2, .int hr)]) kc_125_8 rfl rfl (xm_lt ml_125 rfl) ?_
  refine xi_aload_n (pc' := 10) (x := 1) kc_125_9 rfl rfl ?_
  refine xi_aload_n (pc' := 11) (x := 63) kc_125_10 rfl rfl ?_
  refine xi_iload_n (pc' := 12) (x := hr) kc_125_11 rfl rfl ?_
  refine xi_virtual (mj := 126) (as := [.ref 63, .int hr]) (st1 := []) (lv0 := [(0, .ref 1), (1, .ref 63), (2, .int hr)]) kc_125_12 rfl rfl rfl rfl rfl (G0 1 _ rfl hl_1) (Nat.le_of_ble_eq_true rfl) (hJ _ _ _ _ (by decide)) (xm_le ml_126 rfl) rfl ?_
  refine xi_iconst (pc' := 1) (v := 0) kc_126_0 rfl rfl ?_
  refine xi_istore_n (pc' := 2) (lv' := [(3, .int 0), (0, .ref 1), (1, .ref 63), (2, .int hr)]) kc_126_1 rfl rfl (xm_lt ml_126 rfl) ?_
  refine xi_iload_n (pc' := 3) (x := 0) kc_126_2 rfl rfl ?_
  refine xi_aload_n (pc' := 4) (x := 1) kc_126_3 rfl rfl ?_
  refine xi_getfield (pc' := 7) (v := .int 0) kc_126_4 rfl rfl rfl (G0 1 _ rfl hl_1) rfl ?_
  refine xi_cmt (pc' := 67) kc_126_7 rfl rfl ?_
  refine xi_return kc_126_67 mr_126 ?_
  show xw J ov (d + 8) 125 (15, [(3, .int 5), (0, .ref 1), (1, .ref 63), (2, .int hr)], [], h) _
  refine xi_iconst (pc' := 16) (v := 0) kc_125_15 rfl rfl ?_
  refine xi_istore (pc' := 18) (lv' := [(4, .int 0), (3, .int 5), (0, .ref 1), (1, .ref 63), (2, .int hr)]) kc_125_16 rfl rfl (xm_lt ml_125 rfl) ?_
  refine xi_iload (pc' := 20) (x := 0) kc_125_18 rfl rfl ?_
  refine xi_bipush (pc' := 22) (v := 6) kc_125_20 rfl rfl ?_
  refine xi_cmf (pc' := 25) kc_125_22 rfl rfl ?_
  refine xi_aload_n (pc' := 26) (x := 63) kc_125_25 rfl rfl ?_
  refine xi_getfield (pc' := 29) (v := .int 63) kc_125_26 rfl rfl rfl (G0 63 _ rfl hl_63) rfl ?_
  refine xi_iload (pc' := 31) (x := 0) kc_125_29 rfl rfl ?_
  refine xi_ishr (pc' := 32) (v := 63) kc_125_31 rfl rfl ?_
  refine xi_iconst (pc' := 33) (v := 1) kc_125_32 rfl rfl ?_
  refine xi_iand (pc' := 34) (v := 1) kc_125_33 rfl rfl ?_
  refine xi_iff (pc' := 37) kc_125_34 rfl rfl ?_
  refine xi_aload_n (pc' := 38) (x := 1) kc_125_37 rfl rfl ?_
  refine xi_aload_n (pc' := 39) (x := 63) kc_125_38 rfl rfl ?_
  refine xi_iload (pc' := 41) (x := 0) kc_125_39 rfl rfl ?_
  refine xi_iload_n (pc' := 42) (x := hr) kc_125_41 rfl rfl ?_
  refine xi_iload_n (pc' := 43) (x := 5) kc_125_42 rfl rfl ?_
  refine xi_virtual (mj := 129) (as := [.ref 63, .int 0, .int hr, .int 5]) (st1 := []) (lv0 := [(0, .ref 1), (1, .ref 63), (2, .int 0), (3, .int hr), (4, .int 5)]) kc_125_43 rfl rfl rfl rfl rfl (G0 1 _ rfl hl_1) (Nat.le_of_ble_eq_true rfl) (hJ _ _ _ _ (by decide)) (xm_le ml_129 rfl) rfl ?_
  refine ha_air0 hJ (by first | omega | decide) (by first | omega | decide) (by first | omega | decide) (by first | omega | decide) (by first | omega | decide) (by first | omega | decide) (by first | omega | decide) (by first | omega | decide) (by first | omega | decide) (by first | omega | decide) (by first | omega | decide) (by first | omega | decide) (by first | omega | decide) (by first | omega | decide) G0 A0_0 A0_64 n0 z0 (fun w0_1 w1_1 w2_1 w3_1 w4_1 w5_1 hh1 q1_0 q1_1 q1_2 q1_3 q1_4 q1_5 q1_6 q1_7 q1_8 q1_9 q1_10 q1_11 G1 A1_0 A1_64 n1 z1 => ?_)
  show xw J ov (d + 8) 125 (46, [(4, .int 0), (3, .int 5), (0, .ref 1), (1, .ref 63), (2, .int hr)], [], hh1) _
  refine xi_iinc (pc' := 49) (x := 0) (v := 1) (lv' := [(4, .int 1), (3, .int 5), (0, .ref 1), (1, .ref 63), (2, .int hr)]) kc_125_46 rfl rfl rfl rfl (xm_lt ml_125 rfl) ?_
  refine xi_goto (pc' := 18) kc_125_49 rfl ?_
  refine xi_iload (pc' := 20) (x := 1) kc_125_18 rfl rfl ?_
  refine xi_bipush (pc' := 22) (v := 6) kc_125_20 rfl rfl ?_
  refine xi_cmf (pc' := 25) kc_125_22 rfl rfl ?_
  refine xi_aload_n (pc' := 26) (x := 63) kc_125_25 rfl rfl ?_
  refine xi_getfield (pc' := 29) (v := .int 63) kc_125_26 rfl rfl rfl (G1 63 _ rfl hl_63) rfl ?_
  refine xi_iload (pc' := 31) (x := 1) kc_125_29 rfl rfl ?_
  refine xi_ishr (pc' := 32) (v := 31) kc_125_31 rfl rfl ?_
  refine xi_iconst (pc' := 33) (v := 1) kc_125_32 rfl rfl ?_
  refine xi_iand (pc' := 34) (v := 1) kc_125_33 rfl rfl ?_
  refine xi_iff (pc' := 37) kc_125_34 rfl rfl ?_
  refine xi_aload_n (pc' := 38) (x := 1) kc_125_37 rfl rfl ?_
  refine xi_aload_n (pc' := 39) (x := 63) kc_125_38 rfl rfl ?_
  refine xi_iload (pc' := 41) (x := 1) kc_125_39 rfl rfl ?_
  refine xi_iload_n (pc' := 42) (x := hr) kc_125_41 rfl rfl ?_
  refine xi_iload_n (pc' := 43) (x := 5) kc_125_42 rfl rfl ?_
  refine xi_virtual (mj := 129) (as := [.ref 63, .int 1, .int hr, .int 5]) (st1 := []) (lv0 := [(0, .ref 1), (1, .ref 63), (2, .int 1), (3, .int hr), (4, .int 5)]) kc_125_43 rfl rfl rfl rfl rfl (G1 1 _ rfl hl_1) (Nat.le_of_ble_eq_true rfl) (hJ _ _ _ _ (by decide)) (xm_le ml_129 rfl) rfl ?_
  refine ha_air1 hJ (by first | omega | decide) (by first | omega | decide) (by first | omega | decide) (by first | omega | decide) (by first | omega | decide) (by first | omega | decide) (by first | omega | decide) (by first | omega | decide) (by first | omega | decide) (by first | omega | decide) (by first | omega | decide) (by first | omega | decide) (by first | omega | decide) (by first | omega | decide) G1 A1_0 A1_64 n1 z1 (fun w0_2 w1_2 w2_2 w3_2 w4_2 w5_2 hh2 q2_0 q2_1 q2_2 q2_3 q2_4 q2_5 q2_6 q2_7 q2_8 q2_9 q2_10 q2_11 G2 A2_0 A2_64 n2 z2 => ?_)
  show xw J ov (d + 8) 125 (46, [(4, .int 1), (3, .int 5), (0, .ref 1), (1, .ref 63), (2, .int hr)], [], hh2) _
  refine xi_iinc (pc' := 49) (x := 1) (v := 2) (lv' := [(4, .int 2), (3, .int 5), (0, .ref 1), (1, .ref 63), (2, .int hr)]) kc_125_46 rfl rfl rfl rfl (xm_lt ml_125 rfl) ?_
  refine xi_goto (pc' := 18) kc_125_49 rfl ?_
  refine xi_iload (pc' := 20) (x := 2) kc_125_18 rfl rfl ?_
  refine xi_bipush (pc' := 22) (v := 6) kc_125_20 rfl rfl ?_
  refine xi_cmf (pc' := 25) kc_125_22 rfl rfl ?_
  refine xi_aload_n (pc' := 26) (x := 63) kc_125_25 rfl rfl ?_
  refine xi_getfield (pc' := 29) (v := .int 63) kc_125_26 rfl rfl rfl (G2 63 _ rfl hl_63) rfl ?_
  refine xi_iload (pc' := 31) (x := 2) kc_125_29 rfl rfl ?_
  refine xi_ishr (pc' := 32) (v := 15) kc_125_31 rfl rfl ?_
  refine xi_iconst (pc' := 33) (v := 1) kc_125_32 rfl rfl ?_
  refine xi_iand (pc' := 34) (v := 1) kc_125_33 rfl rfl ?_
  refine xi_iff (pc' := 37) kc_125_34 rfl rfl ?_
  refine xi_aload_n (pc' := 38) (x := 1) kc_125_37 rfl rfl ?_
  refine xi_aload_n (pc' := 39) (x := 63) kc_125_38 rfl rfl ?_
  refine xi_iload (pc' := 41) (x := 2) kc_125_39 rfl rfl ?_
  refine xi_iload_n (pc' := 42) (x := hr) kc_125_41 rfl rfl ?_
  refine xi_iload_n (pc' := 43) (x := 5) kc_125_42 rfl rfl ?_
  refine xi_virtual (mj := 129) (as := [.ref 63, .int 2, .int hr, .int 5]) (st1 := []) (lv0 := [(0, .ref 1), (1, .ref 63), (2, .int 2), (3, .int hr), (4, .int 5)]) kc_125_43 rfl rfl rfl rfl rfl (G2 1 _ rfl hl_1) (Nat.le_of_ble_eq_true rfl) (hJ _ _ _ _ (by decide)) (xm_le ml_129 rfl) rfl ?_
  refine ha_air2 hJ (by first | omega | decide) (by first | omega | decide) (by first | omega | decide) (by first | omega | decide) (by first | omega | decide) (by first | omega | decide) (by first | omega | decide) (by first | omega | decide) (by first | omega | decide) (by first | omega | decide) (by first | omega | decide) (by first | omega | decide) (by first | omega | decide) (by first | omega | decide) G2 A2_0 A2_64 n2 z2 (fun w0_3 w1_3 w2_3 w3_3 w4_3 w5_3 hh3 q3_0 q3_1 q3_2 q3_3 q3_4 q3_5 q3_6 q3_7 q3_8 q3_9 q3_10 q3_11 G3 A3_0 A3_64 n3 z3 => ?_)
  show xw J ov (d + 8) 125 (46, [(4, .int 2), (3, .int 5), (0, .ref 1), (1, .ref 63), (2, .int hr)], [], hh3) _
  refine xi_iinc (pc' := 49) (x := 2) (v := 3) (lv' := [(4, .int 3), (3, .int 5), (0, .ref 1), (1, .ref 63), (2, .int hr)]) kc_125_46 rfl rfl rfl rfl (xm_lt ml_125 rfl) ?_
  refine xi_goto (pc' := 18) kc_125_49 rfl ?_
  refine xi_iload (pc' := 20) (x := 3) kc_125_18 rfl rfl ?_
  refine xi_bipush (pc' := 22) (v := 6) kc_125_20 rfl rfl ?_
  refine xi_cmf (pc' := 25) kc_125_22 rfl rfl ?_
  refine xi_aload_n (pc' := 26) (x := 63) kc_125_25 rfl rfl ?_
  refine xi_getfield (pc' := 29) (v := .int 63) kc_125_26 rfl rfl rfl (G3 63 _ rfl hl_63) rfl ?_
  refine xi_iload (pc' := 31) (x := 3) kc_125_29 rfl rfl ?_
  refine xi_ishr (pc' := 32) (v := 7) kc_125_31 rfl rfl ?_
  refine xi_iconst (pc' := 33) (v := 1) kc_125_32 rfl rfl ?_
  refine xi_iand (pc' := 34) (v := 1) kc_125_33 rfl rfl ?_
  refine xi_iff (pc' := 37) kc_125_34 rfl rfl ?_
  refine xi_aload_n (pc' := 38) (x := 1) kc_125_37 rfl rfl ?_
  refine xi_aload_n (pc' := 39) (x := 63) kc_125_38 rfl rfl ?_
  refine xi_iload (pc' := 41) (x := 3) kc_125_39 rfl rfl ?_
  refine xi_iload_n (pc' := 42) (x := hr) kc_125_41 rfl rfl ?_
  refine xi_iload_n (pc' := 43) (x := 5) kc_125_42 rfl rfl ?_
  refine xi_virtual (mj := 129) (as := [.ref 63, .int 3, .int hr, .int 5]) (st1 := []) (lv0 := [(0, .ref 1), (1, .ref 63), (2, .int 3), (3, .int hr), (4, .int 5)]) kc_125_43 rfl rfl rfl rfl rfl (G3 1 _ rfl hl_1) (Nat.le_of_ble_eq_true rfl) (hJ _ _ _ _ (by decide)) (xm_le ml_129 rfl) rfl ?_
  refine ha_air3 hJ (by first | omega | decide) (by first | omega | decide) (by first | omega | decide) (by first | omega | decide) (by first | omega | decide) (by first | omega | decide) (by first | omega | decide) (by first | omega | decide) (by first | omega | decide) (by first | omega | decide) (by first | omega | decide) (by first | omega | decide) (by first | omega | decide) (by first | omega | decide) G3 A3_0 A3_64 n3 z3 (fun w0_4 w1_4 w2_4 w3_4 w4_4 w5_4 hh4 q4_0 q4_1 q4_2 q4_3 q4_4 q4_5 q4_6 q4_7 q4_8 q4_9 q4_10 q4_11 G4 A4_0 A4_64 n4 z4 => ?_)
  show xw J ov (d + 8) 125 (46, [(4, .int 3), (3, .int 5), (0, .ref 1), (1, .ref 63), (2, .int hr)], [], hh4) _
  refine xi_iinc (pc' := 49) (x := 3) (v := 4) (lv' := [(4, .int 4), (3, .int 5), (0, .ref 1), (1, .ref 63), (2, .int hr)]) kc_125_46 rfl rfl rfl rfl (xm_lt ml_125 rfl) ?_
  refine xi_goto (pc' := 18) kc_125_49 rfl ?_
  refine xi_iload (pc' := 20) (x := 4) kc_125_18 rfl rfl ?_
  refine xi_bipush (pc' := 22) (v := 6) kc_125_20 rfl rfl ?_
  refine xi_cmf (pc' := 25) kc_125_22 rfl rfl ?_
  refine xi_aload_n (pc' := 26) (x := 63) kc_125_25 rfl rfl ?_
  refine xi_getfield (pc' := 29) (v := .int 63) kc_125_26 rfl rfl rfl (G4 63 _ rfl hl_63) rfl ?_
  refine xi_iload (pc' := 31) (x := 4) kc_125_29 rfl rfl ?_
  refine xi_ishr (pc' := 32) (v := 3) kc_125_31 rfl rfl ?_
  refine xi_iconst (pc' := 33) (v := 1) kc_125_32 rfl rfl ?_
  refine xi_iand (pc' := 34) (v := 1) kc_125_33 rfl rfl ?_
  refine xi_iff (pc' := 37) kc_125_34 rfl rfl ?_
  refine xi_aload_n (pc' := 38) (x := 1) kc_125_37 rfl rfl ?_
  refine xi_aload_n (pc' := 39) (x := 63) kc_125_38 rfl rfl ?_
  refine xi_iload (pc' := 41) (x := 4) kc_125_39 rfl rfl ?_
  refine xi_iload_n (pc' := 42) (x := hr) kc_125_41 rfl rfl ?_
  refine xi_iload_n (pc' := 43) (x := 5) kc_125_42 rfl rfl ?_
  refine xi_virtual (mj := 129) (as := [.ref 63, .int 4, .int hr, .int 5]) (st1 := []) (lv0 := [(0, .ref 1), (1, .ref 63), (2, .int 4), (3, .int hr), (4, .int 5)]) kc_125_43 rfl rfl rfl rfl rfl (G4 1 _ rfl hl_1) (Nat.le_of_ble_eq_true rfl) (hJ _ _ _ _ (by decide)) (xm_le ml_129 rfl) rfl ?_
  refine ha_air4 hJ (by first | omega | decide) (by first | omega | decide) (by first | omega | decide) (by first | omega | decide) (by first | omega | decide) (by first | omega | decide) (by first | omega | decide) (by first | omega | decide) (by first | omega | decide) (by first | omega | decide) (by first | omega | decide) (by first | omega | decide) (by first | omega | decide) (by first | omega | decide) G4 A4_0 A4_64 n4 z4 (fun w0_5 w1_5 w2_5 w3_5 w4_5 w5_5 hh5 q5_0 q5_1 q5_2 q5_3 q5_4 q5_5 q5_6 q5_7 q5_8 q5_9 q5_10 q5_11 G5 A5_0 A5_64 n5 z5 => ?_)
  show xw J ov (d + 8) 125 (46, [(4, .int 4), (3, .int 5), (0, .ref 1), (1, .ref 63), (2, .int hr)], [], hh5) _
  refine xi_iinc (pc' := 49) (x := 4) (v := 5) (lv' := [(4, .int 5), (3, .int 5), (0, .ref 1), (1, .ref 63), (2, .int hr)]) kc_125_46 rfl rfl rfl rfl (xm_lt ml_125 rfl) ?_
  refine xi_goto (pc' := 18) kc_125_49 rfl ?_
  refine xi_iload (pc' := 20) (x := 5) kc_125_18 rfl rfl ?_
  refine xi_bipush (pc' := 22) (v := 6) kc_125_20 rfl rfl ?_
  refine xi_cmf (pc' := 25) kc_125_22 rfl rfl ?_
  refine xi_aload_n (pc' := 26) (x := 63) kc_125_25 rfl rfl ?_
  refine xi_getfield (pc' := 29) (v := .int 63) kc_125_26 rfl rfl rfl (G5 63 _ rfl hl_63) rfl ?_
  refine xi_iload (pc' := 31) (x := 5) kc_125_29 rfl rfl ?_
  refine xi_ishr (pc' := 32) (v := 1) kc_125_31 rfl rfl ?_
  refine xi_iconst (pc' := 33) (v := 1) kc_125_32 rfl rfl ?_
  refine xi_iand (pc' := 34) (v := 1) kc_125_33 rfl rfl ?_
  refine xi_iff (pc' := 37) kc_125_34 rfl rfl ?_
  refine xi_aload_n (pc' := 38) (x := 1) kc_125_37 rfl rfl ?_
  refine xi_aload_n (pc' := 39) (x := 63) kc_125_38 rfl rfl ?_
  refine xi_iload (pc' := 41) (x := 5) kc_125_39 rfl rfl ?_
  refine xi_iload_n (pc' := 42) (x := hr) kc_125_41 rfl rfl ?_
  refine xi_iload_n (pc' := 43) (x := 5) kc_125_42 rfl rfl ?_
  refine xi_virtual (mj := 129) (as := [.ref 63, .int 5, .int hr, .int 5]) (st1 := []) (lv0 := [(0, .ref 1), (1, .ref 63), (2, .int 5), (3, .int hr), (4, .int 5)]) kc_125_43 rfl rfl rfl rfl rfl (G5 1 _ rfl hl_1) (Nat.le_of_ble_eq_true rfl) (hJ _ _ _ _ (by decide)) (xm_le ml_129 rfl) rfl ?_
  refine ha_air5 hJ (by first | omega | decide) (by first | omega | decide) (by first | omega | decide) (by first | omega | decide) (by first | omega | decide) (by first | omega | decide) (by first | omega | decide) (by first | omega | decide) (by first | omega | decide) (by first | omega | decide) (by first | omega | decide) (by first | omega | decide) (by first | omega | decide) (by first | omega | decide) G5 A5_0 A5_64 n5 z5 (fun w0_6 w1_6 w2_6 w3_6 w4_6 w5_6 hh6 q6_0 q6_1 q6_2 q6_3 q6_4 q6_5 q6_6 q6_7 q6_8 q6_9 q6_10 q6_11 G6 A6_0 A6_64 n6 z6 => ?_)
  show xw J ov (d + 8) 125 (46, [(4, .int 5), (3, .int 5), (0, .ref 1), (1, .ref 63), (2, .int hr)], [], hh6) _
  refine xi_iinc (pc' := 49) (x := 5) (v := 6) (lv' := [(4, .int 6), (3, .int 5), (0, .ref 1), (1, .ref 63), (2, .int hr)]) kc_125_46 rfl rfl rfl rfl (xm_lt ml_125 rfl) ?_
  refine xi_goto (pc' := 18) kc_125_49 rfl ?_
  refine xi_iload (pc' := 20) (x := 6) kc_125_18 rfl rfl ?_
  refine xi_bipush (pc' := 22) (v := 6) kc_125_20 rfl rfl ?_
  refine xi_cmt (pc' := 52) kc_125_22 rfl rfl ?_
  refine xi_aload_n (pc' := 53) (x := 1) kc_125_52 rfl rfl ?_
  refine xi_aload_n (pc' := 54) (x := 63) kc_125_53 rfl rfl ?_
  refine xi_iload_n (pc' := 55) (x := hr) kc_125_54 rfl rfl ?_
  refine xi_virtual (mj := 133) (as := [.ref 63, .int hr]) (st1 := []) (lv0 := [(0, .ref 1), (1, .ref 63), (2, .int hr)]) kc_125_55 rfl rfl rfl rfl rfl (G6 1 _ rfl hl_1) (Nat.le_of_ble_eq_true rfl) (hJ _ _ _ _ (by decide)) (xm_le ml_133 rfl) rfl ?_
  refine xi_iconst (pc' := 1) (v := 0) kc_133_0 rfl rfl ?_
  refine xi_istore_n (pc' := 2) (lv' := [(3, .int 0), (0, .ref 1), (1, .ref 63), (2, .int hr)]) kc_133_1 rfl rfl (xm_lt ml_133 rfl) ?_
  refine xi_iload_n (pc' := 3) (x := 0) kc_133_2 rfl rfl ?_
  refine xi_aload_n (pc' := 4) (x := 1) kc_133_3 rfl rfl ?_
  refine xi_getfield (pc' := 7) (v := .int 0) kc_133_4 rfl rfl rfl (G6 1 _ rfl hl_1) rfl ?_
  refine xi_cmt (pc' := 69) kc_133_7 rfl rfl ?_
  refine xi_return kc_133_69 mr_133 ?_
  show xw J ov (d + 8) 125 (58, [(4, .int 6), (3, .int 5), (0, .ref 1), (1, .ref 63), (2, .int hr)], [], hh6) _
  refine xi_aload_n (pc' := 59) (x := 1) kc_125_58 rfl rfl ?_
  refine xi_aload_n (pc' := 60) (x := 63) kc_125_59 rfl rfl ?_
  refine xi_virtual (mj := 135) (as := [.ref 63]) (st1 := []) (lv0 := [(0, .ref 1), (1, .ref 63)]) kc_125_60 rfl rfl rfl rfl rfl (G6 1 _ rfl hl_1) (Nat.le_of_ble_eq_true rfl) (hJ _ _ _ _ (by decide)) (xm_le ml_135 rfl) rfl ?_
  refine xi_iconst (pc' := 1) (v := 0) kc_135_0 rfl rfl ?_
  refine xi_istore_n (pc' := 2) (lv' := [(2, .int 0), (0, .ref 1), (1, .ref 63)]) kc_135_1 rfl rfl (xm_lt ml_135 rfl) ?_
  refine xi_iload_n (pc' := 3) (x := 0) kc_135_2 rfl rfl ?_
  refine xi_bipush (pc' := 5) (v := 12) kc_135_3 rfl rfl ?_
  refine xi_cmf (pc' := 8) kc_135_5 rfl rfl ?_
  refine xi_aload_n (pc' := 9) (x := 63) kc_135_8 rfl rfl ?_
  refine xi_getfield (pc' := 12) (v := .ref 65) kc_135_9 rfl rfl rfl (G6 63 _ rfl hl_63) rfl ?_
  refine xi_iload_n (pc' := 13) (x := 0) kc_135_12 rfl rfl ?_
  refine xi_iaload (pc' := 14) (v := 0) kc_135_13 rfl (G6 65 _ rfl hl_65) (by decide) rfl (xi_in (n := 12) (by decide) (by decide)) rfl ?_
  refine xi_istore_n (pc' := 15) (lv' := [(3, .int 0), (2, .int 0), (0, .ref 1), (1, .ref 63)]) kc_135_14 rfl rfl (xm_lt ml_135 rfl) ?_
  refine xi_iload_n (pc' := 16) (x := 0) kc_135_15 rfl rfl ?_
  refine xi_ift (pc' := 39) kc_135_16 rfl rfl ?_
  refine xi_iinc (pc' := 42) (x := 0) (v := 1) (lv' := [(2, .int 1), (3, .int 0), (0, .ref 1), (1, .ref 63)]) kc_135_39 rfl rfl rfl rfl (xm_lt ml_135 rfl) ?_
  refine xi_goto (pc' := 2) kc_135_42 rfl ?_
  refine xi_iload_n (pc' := 3) (x := 1) kc_135_2 rfl rfl ?_
  refine xi_bipush (pc' := 5) (v := 12) kc_135_3 rfl rfl ?_
  refine xi_cmf (pc' := 8) kc_135_5 rfl rfl ?_
  refine xi_aload_n (pc' := 9) (x := 63) kc_135_8 rfl rfl ?_
  refine xi_getfield (pc' := 12) (v := .ref 65) kc_135_9 rfl rfl rfl (G6 63 _ rfl hl_63) rfl ?_
  refine xi_iload_n (pc' := 13) (x := 1) kc_135_12 rfl rfl ?_
  refine xi_iaload (pc' := 14) (v := 0) kc_135_13 rfl (G6 65 _ rfl hl_65) (by decide) rfl (xi_in (n := 12) (by decide) (by decide)) rfl ?_
  refine xi_istore_n (pc' := 15) (lv' := [(3, .int 0), (2, .int 1), (0, .ref 1), (1, .ref 63)]) kc_135_14 rfl rfl (xm_lt ml_135 rfl) ?_
  refine xi_iload_n (pc' := 16) (x := 0) kc_135_15 rfl rfl ?_
  refine xi_ift (pc' := 39) kc_135_16 rfl rfl ?_
  refine xi_iinc (pc' := 42) (x := 1) (v := 2) (lv' := [(2, .int 2), (3, .int 0), (0, .ref 1), (1, .ref 63)]) kc_135_39 rfl rfl rfl rfl (xm_lt ml_135 rfl) ?_
  refine xi_goto (pc' := 2) kc_135_42 rfl ?_
  refine xi_iload_n (pc' := 3) (x := 2) kc_135_2 rfl rfl ?_
  refine xi_bipush (pc' := 5) (v := 12) kc_135_3 rfl rfl ?_
  refine xi_cmf (pc' := 8) kc_135_5 rfl rfl ?_
  refine xi_aload_n (pc' := 9) (x := 63) kc_135_8 rfl rfl ?_
  refine xi_getfield (pc' := 12) (v := .ref 65) kc_135_9 rfl rfl rfl (G6 63 _ rfl hl_63) rfl ?_
  refine xi_iload_n (pc' := 13) (x := 2) kc_135_12 rfl rfl ?_
  refine xi_iaload (pc' := 14) (v := 0) kc_135_13 rfl (G6 65 _ rfl hl_65) (by decide) rfl (xi_in (n := 12) (by decide) (by decide)) rfl ?_
  refine xi_istore_n (pc' := 15) (lv' := [(3, .int 0), (2, .int 2), (0, .ref 1), (1, .ref 63)]) kc_135_14 rfl rfl (xm_lt ml_135 rfl) ?_
  refine xi_iload_n (pc' := 16) (x := 0) kc_135_15 rfl rfl ?_
  refine xi_ift (pc' := 39) kc_135_16 rfl rfl ?_
  refine xi_iinc (pc' := 42) (x := 2) (v := 3) (lv' := [(2, .int 3), (3, .int 0), (0, .ref 1), (1, .ref 63)]) kc_135_39 rfl rfl rfl rfl (xm_lt ml_135 rfl) ?_
  refine xi_goto (pc' := 2) kc_135_42 rfl ?_
  refine xi_iload_n (pc' := 3) (x := 3) kc_135_2 rfl rfl ?_
  refine xi_bipush (pc' := 5) (v := 12) kc_135_3 rfl rfl ?_
  refine xi_cmf (pc' := 8) kc_135_5 rfl rfl ?_
  refine xi_aload_n (pc' := 9) (x := 63) kc_135_8 rfl rfl ?_
  refine xi_getfield (pc' := 12) (v := .ref 65) kc_135_9 rfl rfl rfl (G6 63 _ rfl hl_63) rfl ?_
  refine xi_iload_n (pc' := 13) (x := 3) kc_135_12 rfl rfl ?_
  refine xi_iaload (pc' := 14) (v := 0) kc_135_13 rfl (G6 65 _ rfl hl_65) (by decide) rfl (xi_in (n := 12) (by decide) (by decide)) rfl ?_
  refine xi_istore_n (pc' := 15) (lv' := [(3, .int 0), (2, .int 3), (0, .ref 1), (1, .ref 63)]) kc_135_14 rfl rfl (xm_lt ml_135 rfl) ?_
  refine xi_iload_n (pc' := 16) (x := 0) kc_135_15 rfl rfl ?_
  refine xi_ift (pc' := 39) kc_135_16 rfl rfl ?_
  refine xi_iinc (pc' := 42) (x := 3) (v := 4) (lv' := [(2, .int 4), (3, .int 0), (0, .ref 1), (1, .ref 63)]) kc_135_39 rfl rfl rfl rfl (xm_lt ml_135 rfl) ?_
  refine xi_goto (pc' := 2) kc_135_42 rfl ?_
  refine xi_iload_n (pc' := 3) (x := 4) kc_135_2 rfl rfl ?_
  refine xi_bipush (pc' := 5) (v := 12) kc_135_3 rfl rfl ?_
  refine xi_cmf (pc' := 8) kc_135_5 rfl rfl ?_
  refine xi_aload_n (pc' := 9) (x := 63) kc_135_8 rfl rfl ?_
  refine xi_getfield (pc' := 12) (v := .ref 65) kc_135_9 rfl rfl rfl (G6 63 _ rfl hl_63) rfl ?_
  refine xi_iload_n (pc' := 13) (x := 4) kc_135_12 rfl rfl ?_
  refine xi_iaload (pc' := 14) (v := 0) kc_135_13 rfl (G6 65 _ rfl hl_65) (by decide) rfl (xi_in (n := 12) (by decide) (by decide)) rfl ?_
  refine xi_istore_n (pc' := 15) (lv' := [(3, .int 0), (2, .int 4), (0, .ref 1), (1, .ref 63)]) kc_135_14 rfl rfl (xm_lt ml_135 rfl) ?_
  refine xi_iload_n (pc' := 16) (x := 0) kc_135_15 rfl rfl ?_
  refine xi_ift (pc' := 39) kc_135_16 rfl rfl ?_
  refine xi_iinc (pc' := 42) (x := 4) (v := 5) (lv' := [(2, .int 5), (3, .int 0), (0, .ref 1), (1, .ref 63)]) kc_135_39 rfl rfl rfl rfl (xm_lt ml_135 rfl) ?_
  refine xi_goto (pc' := 2) kc_135_42 rfl ?_
  refine xi_iload_n (pc' := 3) (x := 5) kc_135_2 rfl rfl ?_
  refine xi_bipush (pc' := 5) (v := 12) kc_135_3 rfl rfl ?_
  refine xi_cmf (pc' := 8) kc_135_5 rfl rfl ?_
  refine xi_aload_n (pc' := 9) (x := 63) kc_135_8 rfl rfl ?_
  refine xi_getfield (pc' := 12) (v := .ref 65) kc_135_9 rfl rfl rfl (G6 63 _ rfl hl_63) rfl ?_
  refine xi_iload_n (pc' := 13) (x := 5) kc_135_12 rfl rfl ?_
  refine xi_iaload (pc' := 14) (v := 0) kc_135_13 rfl (G6 65 _ rfl hl_65) (by decide) rfl (xi_in (n := 12) (by decide) (by decide)) rfl ?_
  refine xi_istore_n (pc' := 15) (lv' := [(3, .int 0), (2, .int 5), (0, .ref 1), (1, .ref 63)]) kc_135_14 rfl rfl (xm_lt ml_135 rfl) ?_
  refine xi_iload_n (pc' := 16) (x := 0) kc_135_15 rfl rfl ?_
  refine xi_ift (pc' := 39) kc_135_16 rfl rfl ?_
  refine xi_iinc (pc' := 42) (x := 5) (v := 6) (lv' := [(2, .int 6), (3, .int 0), (0, .ref 1), (1, .ref 63)]) kc_135_39 rfl rfl rfl rfl (xm_lt ml_135 rfl) ?_
  refine xi_goto (pc' := 2) kc_135_42 rfl ?_
  refine xi_iload_n (pc' := 3) (x := 6) kc_135_2 rfl rfl ?_
  refine xi_bipush (pc' := 5) (v := 12) kc_135_3 rfl rfl ?_
  refine xi_cmf (pc' := 8) kc_135_5 rfl rfl ?_
  refine xi_aload_n (pc' := 9) (x := 63) kc_135_8 rfl rfl ?_
  refine xi_getfield (pc' := 12) (v := .ref 65) kc_135_9 rfl rfl rfl (G6 63 _ rfl hl_63) rfl ?_
  refine xi_iload_n (pc' := 13) (x := 6) kc_135_12 rfl rfl ?_
  refine xi_iaload (pc' := 14) (v := 0) kc_135_13 rfl (G6 65 _ rfl hl_65) (by decide) rfl (xi_in (n := 12) (by decide) (by decide)) rfl ?_
  refine xi_istore_n (pc' := 15) (lv' := [(3, .int 0), (2, .int 6), (0, .ref 1), (1, .ref 63)]) kc_135_14 rfl rfl (xm_lt ml_135 rfl) ?_
  refine xi_iload_n (pc' := 16) (x := 0) kc_135_15 rfl rfl ?_
  refine xi_ift (pc' := 39) kc_135_16 rfl rfl ?_
  refine xi_iinc (pc' := 42) (x := 6) (v := 7) (lv' := [(2, .int 7), (3, .int 0), (0, .ref 1), (1, .ref 63)]) kc_135_39 rfl rfl rfl rfl (xm_lt ml_135 rfl) ?_
  refine xi_goto (pc' := 2) kc_135_42 rfl ?_
  refine xi_iload_n (pc' := 3) (x := 7) kc_135_2 rfl rfl ?_
  refine xi_bipush (pc' := 5) (v := 12) kc_135_3 rfl rfl ?_
  refine xi_cmf (pc' := 8) kc_135_5 rfl rfl ?_
  refine xi_aload_n (pc' := 9) (x := 63) kc_135_8 rfl rfl ?_
  refine xi_getfield (pc' := 12) (v := .ref 65) kc_135_9 rfl rfl rfl (G6 63 _ rfl hl_63) rfl ?_
  refine xi_iload_n (pc' := 13) (x := 7) kc_135_12 rfl rfl ?_
  refine xi_iaload (pc' := 14) (v := 0) kc_135_13 rfl (G6 65 _ rfl hl_65) (by decide) rfl (xi_in (n := 12) (by decide) (by decide)) rfl ?_
  refine xi_istore_n (pc' := 15) (lv' := [(3, .int 0), (2, .int 7), (0, .ref 1), (1, .ref 63)]) kc_135_14 rfl rfl (xm_lt ml_135 rfl) ?_
  refine xi_iload_n (pc' := 16) (x := 0) kc_135_15 rfl rfl ?_
  refine xi_ift (pc' := 39) kc_135_16 rfl rfl ?_
  refine xi_iinc (pc' := 42) (x := 7) (v := 8) (lv' := [(2, .int 8), (3, .int 0), (0, .ref 1), (1, .ref 63)]) kc_135_39 rfl rfl rfl rfl (xm_lt ml_135 rfl) ?_
  refine xi_goto (pc' := 2) kc_135_42 rfl ?_
  refine xi_iload_n (pc' := 3) (x := 8) kc_135_2 rfl rfl ?_
  refine xi_bipush (pc' := 5) (v := 12) kc_135_3 rfl rfl ?_
  refine xi_cmf (pc' := 8) kc_135_5 rfl rfl ?_
  refine xi_aload_n (pc' := 9) (x := 63) kc_135_8 rfl rfl ?_
  refine xi_getfield (pc' := 12) (v := .ref 65) kc_135_9 rfl rfl rfl (G6 63 _ rfl hl_63) rfl ?_
  refine xi_iload_n (pc' := 13) (x := 8) kc_135_12 rfl rfl ?_
  refine xi_iaload (pc' := 14) (v := 0) kc_135_13 rfl (G6 65 _ rfl hl_65) (by decide) rfl (xi_in (n := 12) (by decide) (by decide)) rfl ?_
  refine xi_istore_n (pc' := 15) (lv' := [(3, .int 0), (2, .int 8), (0, .ref 1), (1, .ref 63)]) kc_135_14 rfl rfl (xm_lt ml_135 rfl) ?_
  refine xi_iload_n (pc' := 16) (x := 0) kc_135_15 rfl rfl ?_
  refine xi_ift (pc' := 39) kc_135_16 rfl rfl ?_
  refine xi_iinc (pc' := 42) (x := 8) (v := 9) (lv' := [(2, .int 9), (3, .int 0), (0, .ref 1), (1, .ref 63)]) kc_135_39 rfl rfl rfl rfl (xm_lt ml_135 rfl) ?_
  refine xi_goto (pc' := 2) kc_135_42 rfl ?_
  refine xi_iload_n (pc' := 3) (x := 9) kc_135_2 rfl rfl ?_
  refine xi_bipush (pc' := 5) (v := 12) kc_135_3 rfl rfl ?_
  refine xi_cmf (pc' := 8) kc_135_5 rfl rfl ?_
  refine xi_aload_n (pc' := 9) (x := 63) kc_135_8 rfl rfl ?_
  refine xi_getfield (pc' := 12) (v := .ref 65) kc_135_9 rfl rfl rfl (G6 63 _ rfl hl_63) rfl ?_
  refine xi_iload_n (pc' := 13) (x := 9) kc_135_12 rfl rfl ?_
  refine xi_iaload (pc' := 14) (v := 0) kc_135_13 rfl (G6 65 _ rfl hl_65) (by decide) rfl (xi_in (n := 12) (by decide) (by decide)) rfl ?_
  refine xi_istore_n (pc' := 15) (lv' := [(3, .int 0), (2, .int 9), (0, .ref 1), (1, .ref 63)]) kc_135_14 rfl rfl (xm_lt ml_135 rfl) ?_
  refine xi_iload_n (pc' := 16) (x := 0) kc_135_15 rfl rfl ?_
  refine xi_ift (pc' := 39) kc_135_16 rfl rfl ?_
  refine xi_iinc (pc' := 42) (x := 9) (v := 10) (lv' := [(2, .int 10), (3, .int 0), (0, .ref 1), (1, .ref 63)]) kc_135_39 rfl rfl rfl rfl (xm_lt ml_135 rfl) ?_
  refine xi_goto (pc' := 2) kc_135_42 rfl ?_
  refine xi_iload_n (pc' := 3) (x := 10) kc_135_2 rfl rfl ?_
  refine xi_bipush (pc' := 5) (v := 12) kc_135_3 rfl rfl ?_
  refine xi_cmf (pc' := 8) kc_135_5 rfl rfl ?_
  refine xi_aload_n (pc' := 9) (x := 63) kc_135_8 rfl rfl ?_
  refine xi_getfield (pc' := 12) (v := .ref 65) kc_135_9 rfl rfl rfl (G6 63 _ rfl hl_63) rfl ?_
  refine xi_iload_n (pc' := 13) (x := 10) kc_135_12 rfl rfl ?_
  refine xi_iaload (pc' := 14) (v := 0) kc_135_13 rfl (G6 65 _ rfl hl_65) (by decide) rfl (xi_in (n := 12) (by decide) (by decide)) rfl ?_
  refine xi_istore_n (pc' := 15) (lv' := [(3, .int 0), (2, .int 10), (0, .ref 1), (1, .ref 63)]) kc_135_14 rfl rfl (xm_lt ml_135 rfl) ?_
  refine xi_iload_n (pc' := 16) (x := 0) kc_135_15 rfl rfl ?_
  refine xi_ift (pc' := 39) kc_135_16 rfl rfl ?_
  refine xi_iinc (pc' := 42) (x := 10) (v := 11) (lv' := [(2, .int 11), (3, .int 0), (0, .ref 1), (1, .ref 63)]) kc_135_39 rfl rfl rfl rfl (xm_lt ml_135 rfl) ?_
  refine xi_goto (pc' := 2) kc_135_42 rfl ?_
  refine xi_iload_n (pc' := 3) (x := 11) kc_135_2 rfl rfl ?_
  refine xi_bipush (pc' := 5) (v := 12) kc_135_3 rfl rfl ?_
  refine xi_cmf (pc' := 8) kc_135_5 rfl rfl ?_
  refine xi_aload_n (pc' := 9) (x := 63) kc_135_8 rfl rfl ?_
  refine xi_getfield (pc' := 12) (v := .ref 65) kc_135_9 rfl rfl rfl (G6 63 _ rfl hl_63) rfl ?_
  refine xi_iload_n (pc' := 13) (x := 11) kc_135_12 rfl rfl ?_
  refine xi_iaload (pc' := 14) (v := 0) kc_135_13 rfl (G6 65 _ rfl hl_65) (by decide) rfl (xi_in (n := 12) (by decide) (by decide)) rfl ?_
  refine xi_istore_n (pc' := 15) (lv' := [(3, .int 0), (2, .int 11), (0, .ref 1), (1, .ref 63)]) kc_135_14 rfl rfl (xm_lt ml_135 rfl) ?_
  refine xi_iload_n (pc' := 16) (x := 0) kc_135_15 rfl rfl ?_
  refine xi_ift (pc' := 39) kc_135_16 rfl rfl ?_
  refine xi_iinc (pc' := 42) (x := 11) (v := 12) (lv' := [(2, .int 12), (3, .int 0), (0, .ref 1), (1, .ref 63)]) kc_135_39 rfl rfl rfl rfl (xm_lt ml_135 rfl) ?_
  refine xi_goto (pc' := 2) kc_135_42 rfl ?_
  refine xi_iload_n (pc' := 3) (x := 12) kc_135_2 rfl rfl ?_
  refine xi_bipush (pc' := 5) (v := 12) kc_135_3 rfl rfl ?_
  refine xi_cmt (pc' := 45) kc_135_5 rfl rfl ?_
  refine xi_return kc_135_45 mr_135 ?_
  show xw J ov (d + 8) 125 (63, [(4, .int 6), (3, .int 5), (0, .ref 1), (1, .ref 63), (2, .int hr)], [], hh6) _
  refine xi_return kc_125_63 mr_125 ?_
  exact kk w0_6 w1_6 w2_6 w3_6 w4_6 w5_6 hh6 (by first | omega | decide) (by first | omega | decide) (by first | omega | decide) (by first | omega | decide) (by first | omega | decide) (by first | omega | decide) (by first | omega | decide) (by first | omega | decide) (by first | omega | decide) (by first | omega | decide) (by first | omega | decide) (by first | omega | decide) G6 A6_0 A6_64 n6 z6
set_option maxHeartbeats 8000000 in
set_option maxRecDepth 20000 in
theorem ha_note {J : xe_J} {ov : List (List Int32)} {d N Z : Nat} (hJ : ∀ d mj as h, mj ≠ xe_loff → J d mj as h = none) {Q : Option Value → xe_H → Prop} {hr w0 w1 w2 w3 w4 w5 : Int32} {h : xe_H} (h_0 : 0 ≤ w0.toInt) (h_1 : 0 ≤ w1.toInt) (h_2 : 0 ≤ w2.toInt) (h_3 : 0 ≤ w3.toInt) (h_4 : 0 ≤ w4.toInt) (h_5 : 0 ≤ w5.toInt) (h_6 : w0.toInt ≤ 880) (h_7 : w1.toInt ≤ 880) (h_8 : w2.toInt ≤ 880) (h_9 : w3.toInt ≤ 880) (h_10 : w4.toInt ≤ 880) (h_11 : w5.toInt ≤ 880) (h_12 : 0 ≤ hr.toInt) (h_13 : hr.toInt ≤ 599) (G0 : xg [0, 64] h) (A0_0 : h[0]? = some (.inr (0, [.ref 1, .ref 63, .ref 66, .ref 75, .ref 80, .ref 85, .ref 93, .ref 94, .int 0, .int hr]))) (A0_64 : h[64]? = some (.inl (0, .inl ([w0, w1, w2, w3, w4, w5])))) (n0 : h.length = N) (z0 : xe_sz h = Z) (kk : ∀ (w0_ w1_ w2_ w3_ w4_ w5_ : Int32) (h1 : xe_H), 0 ≤ w0_.toInt → 0 ≤ w1_.toInt → 0 ≤ w2_.toInt → 0 ≤ w3_.toInt → 0 ≤ w4_.toInt → 0 ≤ w5_.toInt → w0_.toInt ≤ 880 → w1_.toInt ≤ 880 → w2_.toInt ≤ 880 → w3_.toInt ≤ 880 → w4_.toInt ≤ 880 → w5_.toInt ≤ 880 → xg [0, 64] h1 → h1[0]? = some (.inr (0, [.ref 1, .ref 63, .ref 66, .ref 75, .ref 80, .ref 85, .ref 93, .ref 94, .int 0, .int hr])) → h1[64]? = some (.inl (0, .inl ([w0_, w1_, w2_, w3_, w4_, w5_]))) → h1.length = N → xe_sz h1 = Z → Q (none) h1) : xw J ov (d + 4) 136 (0, [(0, .ref 1), (1, .ref 63), (2, .int hr)], [], h) Q := by
  refine xi_iload_n (pc' := 1) (x := hr) kc_136_0 rfl rfl ?_
  refine xi_iff (pc' := 4) kc_136_1 rfl (xc_lt_f (X := hr.toInt) (Y := 0) rfl (by decide) (by omega)) ?_
  refine xi_iload_n (pc' := 5) (x := hr) kc_136_4 rfl rfl ?_
  refine xi_sipush (pc' := 8) (v := 600) kc_136_5 rfl rfl ?_
  refine xi_cmt (pc' := 12) kc_136_8 rfl (xc_lt_t (X := hr.toInt) (Y := 600) rfl (by decide) (by omega)) ?_
  refine xi_iconst (pc' := 13) (v := 0) kc_136_12 rfl rfl ?_
  refine xi_istore_n (pc' := 14) (lv' := [(3, .int 0), (0, .ref 1), (1, .ref 63), (2, .int hr)]) kc_136_13 rfl rfl (xm_lt ml_136 rfl) ?_
  refine xi_iload_n (pc' := 15) (x := 0) kc_136_14 rfl rfl ?_
  refine xi_bipush (pc' := 17) (v := 12) kc_136_15 rfl rfl ?_
  refine xi_cmf (pc' := 20) kc_136_17 rfl rfl ?_
  refine xi_aload_n (pc' := 21) (x := 1) kc_136_20 rfl rfl ?_
  refine xi_getfield (pc' := 24) (v := .ref 3) kc_136_21 rfl rfl rfl (G0 1 _ rfl hl_1) rfl ?_
  refine xi_iload_n (pc' := 25) (x := 0) kc_136_24 rfl rfl ?_
  refine xi_aaload (pc' := 26) (b := 29) kc_136_25 rfl (G0 3 _ rfl hl_3) rfl (xi_in (n := 12) (by decide) (by decide)) rfl ?_
  refine xi_getfield (pc' := 29) (v := .ref 30) kc_136_26 rfl rfl rfl (G0 29 _ rfl hl_29) rfl ?_
  refine xi_iload_n (pc' := 30) (x := hr) kc_136_29 rfl rfl ?_
  refine xi_aload_n (pc' := 31) (x := 63) kc_136_30 rfl rfl ?_
  refine xi_getfield (pc' := 34) (v := .ref 65) kc_136_31 rfl rfl rfl (G0 63 _ rfl hl_63) rfl ?_
  refine xi_iload_n (pc' := 35) (x := 0) kc_136_34 rfl rfl ?_
  refine xi_iaload (pc' := 36) (v := 0) kc_136_35 rfl (G0 65 _ rfl hl_65) (by decide) rfl (xi_in (n := 12) (by decide) (by decide)) rfl ?_
  refine xi_iastore (pc' := 37) (x' := List.replicate 600 0) kc_136_36 rfl (G0 30 _ rfl hl_30) rfl (xi_in (by omega) (by rw [List.length_replicate]; omega)) xa_sr (fun hh1 eh1 => ?_)
  have G1 := xg_keep G0 eh1 hl_30
  have A1_0 := (eh1.2.1 0 (by decide)).trans A0_0
  have A1_64 := (eh1.2.1 64 (by decide)).trans A0_64
  have n1 := eh1.2.2.1.trans n0
  have z1 := eh1.2.2.2.trans z0
  clear G0 n0 z0 A0_0 A0_64 eh1
  refine xi_aload_n (pc' := 38) (x := 63) kc_136_37 rfl rfl ?_
  refine xi_getfield (pc' := 41) (v := .ref 65) kc_136_38 rfl rfl rfl (G1 63 _ rfl hl_63) rfl ?_
  refine xi_iload_n (pc' := 42) (x := 0) kc_136_41 rfl rfl ?_
  refine xi_iaload (pc' := 43) (v := 0) kc_136_42 rfl (G1 65 _ rfl hl_65) (by decide) rfl (xi_in (n := 12) (by decide) (by decide)) rfl ?_
  refine xi_bipush (pc' := 45) (v := 50) kc_136_43 rfl rfl ?_
  refine xi_cmt (pc' := 63) kc_136_45 rfl rfl ?_
  refine xi_iinc (pc' := 66) (x := 0) (v := 1) (lv' := [(3, .int 1), (0, .ref 1), (1, .ref 63), (2, .int hr)]) kc_136_63 rfl rfl rfl rfl (xm_lt ml_136 rfl) ?_
  refine xi_goto (pc' := 14) kc_136_66 rfl ?_
  refine xi_iload_n (pc' := 15) (x := 1) kc_136_14 rfl rfl ?_
  refine xi_bipush (pc' := 17) (v := 12) kc_136_15 rfl rfl ?_
  refine xi_cmf (pc' := 20) kc_136_17 rfl rfl ?_
  refine xi_aload_n (pc' := 21) (x := 1) kc_136_20 rfl rfl ?_
  refine xi_getfield (pc' := 24) (v := .ref 3) kc_136_21 rfl rfl rfl (G1 1 _ rfl hl_1) rfl ?_
  refine xi_iload_n (pc' := 25) (x := 1) kc_136_24 rfl rfl ?_
  refine xi_aaload (pc' := 26) (b := 31) kc_136_25 rfl (G1 3 _ rfl hl_3) rfl (xi_in (n := 12) (by decide) (by decide)) rfl ?_
  refine xi_getfield (pc' := 29) (v := .ref 32) kc_136_26 rfl rfl rfl (G1 31 _ rfl hl_31) rfl ?_
  refine xi_iload_n (pc' := 30) (x := hr) kc_136_29 rfl rfl ?_
  refine xi_aload_n (pc' := 31) (x := 63) kc_136_30 rfl rfl ?_
  refine xi_getfield (pc' := 34) (v := .ref 65) kc_136_31 rfl rfl rfl (G1 63 _ rfl hl_63) rfl ?_
  refine xi_iload_n (pc' := 35) (x := 1) kc_136_34 rfl rfl ?_
  refine xi_iaload (pc' := 36) (v := 0) kc_136_35 rfl (G1 65 _ rfl hl_65) (by decide) rfl (xi_in (n := 12) (by decide) (by decide)) rfl ?_
  refine xi_iastore (pc' := 37) (x' := List.replicate 600 0) kc_136_36 rfl (G1 32 _ rfl hl_32) rfl (xi_in (by omega) (by rw [List.length_replicate]; omega)) xa_sr (fun hh2 eh2 => ?_)
  have G2 := xg_keep G1 eh2 hl_32
  have A2_0 := (eh2.2.1 0 (by decide)).trans A1_0
  have A2_64 := (eh2.2.1 64 (by decide)).trans A1_64
  have n2 := eh2.2.2.1.trans n1
  have z2 := eh2.2.2.2.trans z1
  clear G1 n1 z1 A1_0 A1_64 eh2
  refine xi_aload_n (pc' := 38) (x := 63) kc_136_37 rfl rfl ?_
  refine xi_getfield (pc' := 41) (v := .ref 65) kc_136_38 rfl rfl rfl (G2 63 _ rfl hl_63) rfl ?_
  refine xi_iload_n (pc' := 42) (x := 1) kc_136_41 rfl rfl ?_
  refine xi_iaload (pc' := 43) (v := 0) kc_136_42 rfl (G2 65 _ rfl hl_65) (by decide) rfl (xi_in (n := 12) (by decide) (by decide)) rfl ?_
  refine xi_bipush (pc' := 45) (v := 50) kc_136_43 rfl rfl ?_
  refine xi_cmt (pc' := 63) kc_136_45 rfl rfl ?_
  refine xi_iinc (pc' := 66) (x := 1) (v := 2) (lv' := [(3, .int 2), (0, .ref 1), (1, .ref 63), (2, .int hr)]) kc_136_63 rfl rfl rfl rfl (xm_lt ml_136 rfl) ?_
  refine xi_goto (pc' := 14) kc_136_66 rfl ?_
  refine xi_iload_n (pc' := 15) (x := 2) kc_136_14 rfl rfl ?_
  refine xi_bipush (pc' := 17) (v := 12) kc_136_15 rfl rfl ?_
  refine xi_cmf (pc' := 20) kc_136_17 rfl rfl ?_
  refine xi_aload_n (pc' := 21) (x := 1) kc_136_20 rfl rfl ?_
  refine xi_getfield (pc' := 24) (v := .ref 3) kc_136_21 rfl rfl rfl (G2 1 _ rfl hl_1) rfl ?_
  refine xi_iload_n (pc' := 25) (x := 2) kc_136_24 rfl rfl ?_
  refine xi_aaload (pc' := 26) (b := 33) kc_136_25 rfl (G2 3 _ rfl hl_3) rfl (xi_in (n := 12) (by decide) (by decide)) rfl ?_
  refine xi_getfield (pc' := 29) (v := .ref 34) kc_136_26 rfl rfl rfl (G2 33 _ rfl hl_33) rfl ?_
  refine xi_iload_n (pc' := 30) (x := hr) kc_136_29 rfl rfl ?_
  refine xi_aload_n (pc' := 31) (x := 63) kc_136_30 rfl rfl ?_
  refine xi_getfield (pc' := 34) (v := .ref 65) kc_136_31 rfl rfl rfl (G2 63 _ rfl hl_63) rfl ?_
  refine xi_iload_n (pc' := 35) (x := 2) kc_136_34 rfl rfl ?_
  refine xi_iaload (pc' := 36) (v := 0) kc_136_35 rfl (G2 65 _ rfl hl_65) (by decide) rfl (xi_in (n := 12) (by decide) (by decide)) rfl ?_
  refine xi_iastore (pc' := 37) (x' := List.replicate 600 0) kc_136_36 rfl (G2 34 _ rfl hl_34) rfl (xi_in (by omega) (by rw [List.length_replicate]; omega)) xa_sr (fun hh3 eh3 => ?_)
  have G3 := xg_keep G2 eh3 hl_34
  have A3_0 := (eh3.2.1 0 (by decide)).trans A2_0
  have A3_64 := (eh3.2.1 64 (by decide)).trans A2_64
  have n3 := eh3.2.2.1.trans n2
  have z3 := eh3.2.2.2.trans z2
  clear G2 n2 z2 A2_0 A2_64 eh3
  refine xi_aload_n (pc' := 38) (x := 63) kc_136_37 rfl rfl ?_
  refine xi_getfield (pc' := 41) (v := .ref 65) kc_136_38 rfl rfl rfl (G3 63 _ rfl hl_63) rfl ?_
  refine xi_iload_n (pc' := 42) (x := 2) kc_136_41 rfl rfl ?_
  refine xi_iaload (pc' := 43) (v := 0) kc_136_42 rfl (G3 65 _ rfl hl_65) (by decide) rfl (xi_in (n := 12) (by decide) (by decide)) rfl ?_
  refine xi_bipush (pc' := 45) (v := 50) kc_136_43 rfl rfl ?_
  refine xi_cmt (pc' := 63) kc_136_45 rfl rfl ?_
  refine xi_iinc (pc' := 66) (x := 2) (v := 3) (lv' := [(3, .int 3), (0, .ref 1), (1, .ref 63), (2, .int hr)]) kc_136_63 rfl rfl rfl rfl (xm_lt ml_136 rfl) ?_
  refine xi_goto (pc' := 14) kc_136_66 rfl ?_
  refine xi_iload_n (pc' := 15) (x := 3) kc_136_14 rfl rfl ?_
  refine xi_bipush (pc' := 17) (v := 12) kc_136_15 rfl rfl ?_
  refine xi_cmf (pc' := 20) kc_136_17 rfl rfl ?_
  refine xi_aload_n (pc' := 21) (x := 1) kc_136_20 rfl rfl ?_
  refine xi_getfield (pc' := 24) (v := .ref 3) kc_136_21 rfl rfl rfl (G3 1 _ rfl hl_1) rfl ?_
  refine xi_iload_n (pc' := 25) (x := 3) kc_136_24 rfl rfl ?_
  refine xi_aaload (pc' := 26) (b := 35) kc_136_25 rfl (G3 3 _ rfl hl_3) rfl (xi_in (n := 12) (by decide) (by decide)) rfl ?_
  refine xi_getfield (pc' := 29) (v := .ref 36) kc_136_26 rfl rfl rfl (G3 35 _ rfl hl_35) rfl ?_
  refine xi_iload_n (pc' := 30) (x := hr) kc_136_29 rfl rfl ?_
  refine xi_aload_n (pc' := 31) (x := 63) kc_136_30 rfl rfl ?_
  refine xi_getfield (pc' := 34) (v := .ref 65) kc_136_31 rfl rfl rfl (G3 63 _ rfl hl_63) rfl ?_
  refine xi_iload_n (pc' := 35) (x := 3) kc_136_34 rfl rfl ?_
  refine xi_iaload (pc' := 36) (v := 0) kc_136_35 rfl (G3 65 _ rfl hl_65) (by decide) rfl (xi_in (n := 12) (by decide) (by decide)) rfl ?_
  refine xi_iastore (pc' := 37) (x' := List.replicate 600 0) kc_136_36 rfl (G3 36 _ rfl hl_36) rfl (xi_in (by omega) (by rw [List.length_replicate]; omega)) xa_sr (fun hh4 eh4 => ?_)
  have G4 := xg_keep G3 eh4 hl_36
  have A4_0 := (eh4.2.1 0 (by decide)).trans A3_0
  have A4_64 := (eh4.2.1 64 (by decide)).trans A3_64
  have n4 := eh4.2.2.1.trans n3
  have z4 := eh4.2.2.2.trans z3
  clear G3 n3 z3 A3_0 A3_64 eh4
  refine xi_aload_n (pc' := 38) (x := 63) kc_136_37 rfl rfl ?_
  refine xi_getfield (pc' := 41) (v := .ref 65) kc_136_38 rfl rfl rfl (G4 63 _ rfl hl_63) rfl ?_
  refine xi_iload_n (pc' := 42) (x := 3) kc_136_41 rfl rfl ?_
  refine xi_iaload (pc' := 43) (v := 0) kc_136_42 rfl (G4 65 _ rfl hl_65) (by decide) rfl (xi_in (n := 12) (by decide) (by decide)) rfl ?_
  refine xi_bipush (pc' := 45) (v := 50) kc_136_43 rfl rfl ?_
  refine xi_cmt (pc' := 63) kc_136_45 rfl rfl ?_
  refine xi_iinc (pc' := 66) (x := 3) (v := 4) (lv' := [(3, .int 4), (0, .ref 1), (1, .ref 63), (2, .int hr)]) kc_136_63 rfl rfl rfl rfl (xm_lt ml_136 rfl) ?_
  refine xi_goto (pc' := 14) kc_136_66 rfl ?_
  refine xi_iload_n (pc' := 15) (x := 4) kc_136_14 rfl rfl ?_
  refine xi_bipush (pc' := 17) (v := 12) kc_136_15 rfl rfl ?_
  refine xi_cmf (pc' := 20) kc_136_17 rfl rfl ?_
  refine xi_aload_n (pc' := 21) (x := 1) kc_136_20 rfl rfl ?_
  refine xi_getfield (pc' := 24) (v := .ref 3) kc_136_21 rfl rfl rfl (G4 1 _ rfl hl_1) rfl ?_
  refine xi_iload_n (pc' := 25) (x := 4) kc_136_24 rfl rfl ?_
  refine xi_aaload (pc' := 26) (b := 37) kc_136_25 rfl (G4 3 _ rfl hl_3) rfl (xi_in (n := 12) (by decide) (by decide)) rfl ?_
  refine xi_getfield (pc' := 29) (v := .ref 38) kc_136_26 rfl rfl rfl (G4 37 _ rfl hl_37) rfl ?_
  refine xi_iload_n (pc' := 30) (x := hr) kc_136_29 rfl rfl ?_
  refine xi_aload_n (pc' := 31) (x := 63) kc_136_30 rfl rfl ?_
  refine xi_getfield (pc' := 34) (v := .ref 65) kc_136_31 rfl rfl rfl (G4 63 _ rfl hl_63) rfl ?_
  refine xi_iload_n (pc' := 35) (x := 4) kc_136_34 rfl rfl ?_
  refine xi_iaload (pc' := 36) (v := 0) kc_136_35 rfl (G4 65 _ rfl hl_65) (by decide) rfl (xi_in (n := 12) (by decide) (by decide)) rfl ?_
  refine xi_iastore (pc' := 37) (x' := List.replicate 600 0) kc_136_36 rfl (G4 38 _ rfl hl_38) rfl (xi_in (by omega) (by rw [List.length_replicate]; omega)) xa_sr (fun hh5 eh5 => ?_)
  have G5 := xg_keep G4 eh5 hl_38
  have A5_0 := (eh5.2.1 0 (by decide)).trans A4_0
  have A5_64 := (eh5.2.1 64 (by decide)).trans A4_64
  have n5 := eh5.2.2.1.trans n4
  have z5 := eh5.2.2.2.trans z4
  clear G4 n4 z4 A4_0 A4_64 eh5
  refine xi_aload_n (pc' := 38) (x := 63) kc_136_37 rfl rfl ?_
  refine xi_getfield (pc' := 41) (v := .ref 65) kc_136_38 rfl rfl rfl (G5 63 _ rfl hl_63) rfl ?_
  refine xi_iload_n (pc' := 42) (x := 4) kc_136_41 rfl rfl ?_
  refine xi_iaload (pc' := 43) (v := 0) kc_136_42 rfl (G5 65 _ rfl hl_65) (by decide) rfl (xi_in (n := 12) (by decide) (by decide)) rfl ?_
  refine xi_bipush (pc' := 45) (v := 50) kc_136_43 rfl rfl ?_
  refine xi_cmt (pc' := 63) kc_136_45 rfl rfl ?_
  refine xi_iinc (pc' := 66) (x := 4) (v := 5) (lv' := [(3, .int 5), (0, .ref 1), (1, .ref 63), (2, .int hr)]) kc_136_63 rfl rfl rfl rfl (xm_lt ml_136 rfl) ?_
  refine xi_goto (pc' := 14) kc_136_66 rfl ?_
  refine xi_iload_n (pc' := 15) (x := 5) kc_136_14 rfl rfl ?_
  refine xi_bipush (pc' := 17) (v := 12) kc_136_15 rfl rfl ?_
  refine xi_cmf (pc' := 20) kc_136_17 rfl rfl ?_
  refine xi_aload_n (pc' := 21) (x := 1) kc_136_20 rfl rfl ?_
  refine xi_getfield (pc' := 24) (v := .ref 3) kc_136_21 rfl rfl rfl (G5 1 _ rfl hl_1) rfl ?_
  refine xi_iload_n (pc' := 25) (x := 5) kc_136_24 rfl rfl ?_
  refine xi_aaload (pc' := 26) (b := 39) kc_136_25 rfl (G5 3 _ rfl hl_3) rfl (xi_in (n := 12) (by decide) (by decide)) rfl ?_
  refine xi_getfield (pc' := 29) (v := .ref 40) kc_136_26 rfl rfl rfl (G5 39 _ rfl hl_39) rfl ?_
  refine xi_iload_n (pc' := 30) (x := hr) kc_136_29 rfl rfl ?_
  refine xi_aload_n (pc' := 31) (x := 63) kc_136_30 rfl rfl ?_
  refine xi_getfield (pc' := 34) (v := .ref 65) kc_136_31 rfl rfl rfl (G5 63 _ rfl hl_63) rfl ?_
  refine xi_iload_n (pc' := 35) (x := 5) kc_136_34 rfl rfl ?_
  refine xi_iaload (pc' := 36) (v := 0) kc_136_35 rfl (G5 65 _ rfl hl_65) (by decide) rfl (xi_in (n := 12) (by decide) (by decide)) rfl ?_
  refine xi_iastore (pc' := 37) (x' := List.replicate 600 0) kc_136_36 rfl (G5 40 _ rfl hl_40) rfl (xi_in (by omega) (by rw [List.length_replicate]; omega)) xa_sr (fun hh6 eh6 => ?_)
  have G6 := xg_keep G5 eh6 hl_40
  have A6_0 := (eh6.2.1 0 (by decide)).trans A5_0
  have A6_64 := (eh6.2.1 64 (by decide)).trans A5_64
  have n6 := eh6.2.2.1.trans n5
  have z6 := eh6.2.2.2.trans z5
  clear G5 n5 z5 A5_0 A5_64 eh6
  refine xi_aload_n (pc' := 38) (x := 63) kc_136_37 rfl rfl ?_
  refine xi_getfield (pc' := 41) (v := .ref 65) kc_136_38 rfl rfl rfl (G6 63 _ rfl hl_63) rfl ?_
  refine xi_iload_n (pc' := 42) (x := 5) kc_136_41 rfl rfl ?_
  refine xi_iaload (pc' := 43) (v := 0) kc_136_42 rfl (G6 65 _ rfl hl_65) (by decide) rfl (xi_in (n := 12) (by decide) (by decide)) rfl ?_
  refine xi_bipush (pc' := 45) (v := 50) kc_136_43 rfl rfl ?_
  refine xi_cmt (pc' := 63) kc_136_45 rfl rfl ?_
  refine xi_iinc (pc' := 66) (x := 5) (v := 6) (lv' := [(3, .int 6), (0, .ref 1), (1, .ref 63), (2, .int hr)]) kc_136_63 rfl rfl rfl rfl (xm_lt ml_136 rfl) ?_
  refine xi_goto (pc' := 14) kc_136_66 rfl ?_
  refine xi_iload_n (pc' := 15) (x := 6) kc_136_14 rfl rfl ?_
  refine xi_bipush (pc' := 17) (v := 12) kc_136_15 rfl rfl ?_
  refine xi_cmf (pc' := 20) kc_136_17 rfl rfl ?_
  refine xi_aload_n (pc' := 21) (x := 1) kc_136_20 rfl rfl ?_
  refine xi_getfield (pc' := 24) (v := .ref 3) kc_136_21 rfl rfl rfl (G6 1 _ rfl hl_1) rfl ?_
  refine xi_iload_n (pc' := 25) (x := 6) kc_136_24 rfl rfl ?_
  refine xi_aaload (pc' := 26) (b := 41) kc_136_25 rfl (G6 3 _ rfl hl_3) rfl (xi_in (n := 12) (by decide) (by decide)) rfl ?_
  refine xi_getfield (pc' := 29) (v := .ref 42) kc_136_26 rfl rfl rfl (G6 41 _ rfl hl_41) rfl ?_
  refine xi_iload_n (pc' := 30) (x := hr) kc_136_29 rfl rfl ?_
  refine xi_aload_n (pc' := 31) (x := 63) kc_136_30 rfl rfl ?_
  refine xi_getfield (pc' := 34) (v := .ref 65) kc_136_31 rfl rfl rfl (G6 63 _ rfl hl_63) rfl ?_
  refine xi_iload_n (pc' := 35) (x := 6) kc_136_34 rfl rfl ?_
  refine xi_iaload (pc' := 36) (v := 0) kc_136_35 rfl (G6 65 _ rfl hl_65) (by decide) rfl (xi_in (n := 12) (by decide) (by decide)) rfl ?_
  refine xi_iastore (pc' := 37) (x' := List.replicate 600 0) kc_136_36 rfl (G6 42 _ rfl hl_42) rfl (xi_in (by omega) (by rw [List.length_replicate]; omega)) xa_sr (fun hh7 eh7 => ?_)
  have G7 := xg_keep G6 eh7 hl_42
  have A7_0 := (eh7.2.1 0 (by decide)).trans A6_0
  have A7_64 := (eh7.2.1 64 (by decide)).trans A6_64
  have n7 := eh7.2.2.1.trans n6
  have z7 := eh7.2.2.2.trans z6
  clear G6 n6 z6 A6_0 A6_64 eh7
  refine xi_aload_n (pc' := 38) (x := 63) kc_136_37 rfl rfl ?_
  refine xi_getfield (pc' := 41) (v := .ref 65) kc_136_38 rfl rfl rfl (G7 63 _ rfl hl_63) rfl ?_
  refine xi_iload_n (pc' := 42) (x := 6) kc_136_41 rfl rfl ?_
  refine xi_iaload (pc' := 43) (v := 0) kc_136_42 rfl (G7 65 _ rfl hl_65) (by decide) rfl (xi_in (n := 12) (by decide) (by decide)) rfl ?_
  refine xi_bipush (pc' := 45) (v := 50) kc_136_43 rfl rfl ?_
  refine xi_cmt (pc' := 63) kc_136_45 rfl rfl ?_
  refine xi_iinc (pc' := 66) (x := 6) (v := 7) (lv' := [(3, .int 7), (0, .ref 1), (1, .ref 63), (2, .int hr)]) kc_136_63 rfl rfl rfl rfl (xm_lt ml_136 rfl) ?_
  refine xi_goto (pc' := 14) kc_136_66 rfl ?_
  refine xi_iload_n (pc' := 15) (x := 7) kc_136_14 rfl rfl ?_
  refine xi_bipush (pc' := 17) (v := 12) kc_136_15 rfl rfl ?_
  refine xi_cmf (pc' := 20) kc_136_17 rfl rfl ?_
  refine xi_aload_n (pc' := 21) (x := 1) kc_136_20 rfl rfl ?_
  refine xi_getfield (pc' := 24) (v := .ref 3) kc_136_21 rfl rfl rfl (G7 1 _ rfl hl_1) rfl ?_
  refine xi_iload_n (pc' := 25) (x := 7) kc_136_24 rfl rfl ?_
  refine xi_aaload (pc' := 26) (b := 43) kc_136_25 rfl (G7 3 _ rfl hl_3) rfl (xi_in (n := 12) (by decide) (by decide)) rfl ?_
  refine xi_getfield (pc' := 29) (v := .ref 44) kc_136_26 rfl rfl rfl (G7 43 _ rfl hl_43) rfl ?_
  refine xi_iload_n (pc' := 30) (x := hr) kc_136_29 rfl rfl ?_
  refine xi_aload_n (pc' := 31) (x := 63) kc_136_30 rfl rfl ?_
  refine xi_getfield (pc' := 34) (v := .ref 65) kc_136_31 rfl rfl rfl (G7 63 _ rfl hl_63) rfl ?_
  refine xi_iload_n (pc' := 35) (x := 7) kc_136_34 rfl rfl ?_
  refine xi_iaload (pc' := 36) (v := 0) kc_136_35 rfl (G7 65 _ rfl hl_65) (by decide) rfl (xi_in (n := 12) (by decide) (by decide)) rfl ?_
  refine xi_iastore (pc' := 37) (x' := List.replicate 600 0) kc_136_36 rfl (G7 44 _ rfl hl_44) rfl (xi_in (by omega) (by rw [List.length_replicate]; omega)) xa_sr (fun hh8 eh8 => ?_)
  have G8 := xg_keep G7 eh8 hl_44
  have A8_0 := (eh8.2.1 0 (by decide)).trans A7_0
  have A8_64 := (eh8.2.1 64 (by decide)).trans A7_64
  have n8 := eh8.2.2.1.trans n7
  have z8 := eh8.2.2.2.trans z7
  clear G7 n7 z7 A7_0 A7_64 eh8
  refine xi_aload_n (pc' := 38) (x := 63) kc_136_37 rfl rfl ?_
  refine xi_getfield (pc' := 41) (v := .ref 65) kc_136_38 rfl rfl rfl (G8 63 _ rfl hl_63) rfl ?_
  refine xi_iload_n (pc' := 42) (x := 7) kc_136_41 rfl rfl ?_
  refine xi_iaload (pc' := 43) (v := 0) kc_136_42 rfl (G8 65 _ rfl hl_65) (by decide) rfl (xi_in (n := 12) (by decide) (by decide)) rfl ?_
  refine xi_bipush (pc' := 45) (v := 50) kc_136_43 rfl rfl ?_
  refine xi_cmt (pc' := 63) kc_136_45 rfl rfl ?_
  refine xi_iinc (pc' := 66) (x := 7) (v := 8) (lv' := [(3, .int 8), (0, .ref 1), (1, .ref 63), (2, .int hr)]) kc_136_63 rfl rfl rfl rfl (xm_lt ml_136 rfl) ?_
  refine xi_goto (pc' := 14) kc_136_66 rfl ?_
  refine xi_iload_n (pc' := 15) (x := 8) kc_136_14 rfl rfl ?_
  refine xi_bipush (pc' := 17) (v := 12) kc_136_15 rfl rfl ?_
  refine xi_cmf (pc' := 20) kc_136_17 rfl rfl ?_
  refine xi_aload_n (pc' := 21) (x := 1) kc_136_20 rfl rfl ?_
  refine xi_getfield (pc' := 24) (v := .ref 3) kc_136_21 rfl rfl rfl (G8 1 _ rfl hl_1) rfl ?_
  refine xi_iload_n (pc' := 25) (x := 8) kc_136_24 rfl rfl ?_
  refine xi_aaload (pc' := 26) (b := 45) kc_136_25 rfl (G8 3 _ rfl hl_3) rfl (xi_in (n := 12) (by decide) (by decide)) rfl ?_
  refine xi_getfield (pc' := 29) (v := .ref 46) kc_136_26 rfl rfl rfl (G8 45 _ rfl hl_45) rfl ?_
  refine xi_iload_n (pc' := 30) (x := hr) kc_136_29 rfl rfl ?_
  refine xi_aload_n (pc' := 31) (x := 63) kc_136_30 rfl rfl ?_
  refine xi_getfield (pc' := 34) (v := .ref 65) kc_136_31 rfl rfl rfl (G8 63 _ rfl hl_63) rfl ?_
  refine xi_iload_n (pc' := 35) (x := 8) kc_136_34 rfl rfl ?_
  refine xi_iaload (pc' := 36) (v := 0) kc_136_35 rfl (G8 65 _ rfl hl_65) (by decide) rfl (xi_in (n := 12) (by decide) (by decide)) rfl ?_
  refine xi_iastore (pc' := 37) (x' := List.replicate 600 0) kc_136_36 rfl (G8 46 _ rfl hl_46) rfl (xi_in (by omega) (by rw [List.length_replicate]; omega)) xa_sr (fun hh9 eh9 => ?_)
  have G9 := xg_keep G8 eh9 hl_46
  have A9_0 := (eh9.2.1 0 (by decide)).trans A8_0
  have A9_64 := (eh9.2.1 64 (by decide)).trans A8_64
  have n9 := eh9.2.2.1.trans n8
  have z9 := eh9.2.2.2.trans z8
  clear G8 n8 z8 A8_0 A8_64 eh9
  refine xi_aload_n (pc' := 38) (x := 63) kc_136_37 rfl rfl ?_
  refine xi_getfield (pc' := 41) (v := .ref 65) kc_136_38 rfl rfl rfl (G9 63 _ rfl hl_63) rfl ?_
  refine xi_iload_n (pc' := 42) (x := 8) kc_136_41 rfl rfl ?_
  refine xi_iaload (pc' := 43) (v := 0) kc_136_42 rfl (G9 65 _ rfl hl_65) (by decide) rfl (xi_in (n := 12) (by decide) (by decide)) rfl ?_
  refine xi_bipush (pc' := 45) (v := 50) kc_136_43 rfl rfl ?_
  refine xi_cmt (pc' := 63) kc_136_45 rfl rfl ?_
  refine xi_iinc (pc' := 66) (x := 8) (v := 9) (lv' := [(3, .int 9), (0, .ref 1), (1, .ref 63), (2, .int hr)]) kc_136_63 rfl rfl rfl rfl (xm_lt ml_136 rfl) ?_
  refine xi_goto (pc' := 14) kc_136_66 rfl ?_
  refine xi_iload_n (pc' := 15) (x := 9) kc_136_14 rfl rfl ?_
  refine xi_bipush (pc' := 17) (v := 12) kc_136_15 rfl rfl ?_
  refine xi_cmf (pc' := 20) kc_136_17 rfl rfl ?_
  refine xi_aload_n (pc' := 21) (x := 1) kc_136_20 rfl rfl ?_
  refine xi_getfield (pc' := 24) (v := .ref 3) kc_136_21 rfl rfl rfl (G9 1 _ rfl hl_1) rfl ?_
  refine xi_iload_n (pc' := 25) (x := 9) kc_136_24 rfl rfl ?_
  refine xi_aaload (pc' := 26) (b := 47) kc_136_25 rfl (G9 3 _ rfl hl_3) rfl (xi_in (n := 12) (by decide) (by decide)) rfl ?_
  refine xi_getfield (pc' := 29) (v := .ref 48) kc_136_26 rfl rfl rfl (G9 47 _ rfl hl_47) rfl ?_
  refine xi_iload_n (pc' := 30) (x := hr) kc_136_29 rfl rfl ?_
  refine xi_aload_n (pc' := 31) (x := 63) kc_136_30 rfl rfl ?_
  refine xi_getfield (pc' := 34) (v := .ref 65) kc_136_31 rfl rfl rfl (G9 63 _ rfl hl_63) rfl ?_
  refine xi_iload_n (pc' := 35) (x := 9) kc_136_34 rfl rfl ?_
  refine xi_iaload (pc' := 36) (v := 0) kc_136_35 rfl (G9 65 _ rfl hl_65) (by decide) rfl (xi_in (n := 12) (by decide) (by decide)) rfl ?_
  refine xi_iastore (pc' := 37) (x' := List.replicate 600 0) kc_136_36 rfl (G9 48 _ rfl hl_48) rfl (xi_in (by omega) (by rw [List.length_replicate]; omega)) xa_sr (fun hh10 eh10 => ?_)
  have G10 := xg_keep G9 eh10 hl_48
  have A10_0 := (eh10.2.1 0 (by decide)).trans A9_0
  have A10_64 := (eh10.2.1 64 (by decide)).trans A9_64
  have n10 := eh10.2.2.1.trans n9
  have z10 := eh10.2.2.2.trans z9
  clear G9 n9 z9 A9_0 A9_64 eh10
  refine xi_aload_n (pc' := 38) (x := 63) kc_136_37 rfl rfl ?_
  refine xi_getfield (pc' := 41) (v := .ref 65) kc_136_38 rfl rfl rfl (G10 63 _ rfl hl_63) rfl ?_
  refine xi_iload_n (pc' := 42) (x := 9) kc_136_41 rfl rfl ?_
  refine xi_iaload (pc' := 43) (v := 0) kc_136_42 rfl (G10 65 _ rfl hl_65) (by decide) rfl (xi_in (n := 12) (by decide) (by decide)) rfl ?_
  refine xi_bipush (pc' := 45) (v := 50) kc_136_43 rfl rfl ?_
  refine xi_cmt (pc' := 63) kc_136_45 rfl rfl ?_
  refine xi_iinc (pc' := 66) (x := 9) (v := 10) (lv' := [(3, .int 10), (0, .ref 1), (1, .ref 63), (2, .int hr)]) kc_136_63 rfl rfl rfl rfl (xm_lt ml_136 rfl) ?_
  refine xi_goto (pc' := 14) kc_136_66 rfl ?_
  refine xi_iload_n (pc' := 15) (x := 10) kc_136_14 rfl rfl ?_
  refine xi_bipush (pc' := 17) (v := 12) kc_136_15 rfl rfl ?_
  refine xi_cmf (pc' := 20) kc_136_17 rfl rfl ?_
  refine xi_aload_n (pc' := 21) (x := 1) kc_136_20 rfl rfl ?_
  refine xi_getfield (pc' := 24) (v := .ref 3) kc_136_21 rfl rfl rfl (G10 1 _ rfl hl_1) rfl ?_
  refine xi_iload_n (pc' := 25) (x := 10) kc_136_24 rfl rfl ?_
  refine xi_aaload (pc' := 26) (b := 49) kc_136_25 rfl (G10 3 _ rfl hl_3) rfl (xi_in (n := 12) (by decide) (by decide)) rfl ?_
  refine xi_getfield (pc' := 29) (v := .ref 50) kc_136_26 rfl rfl rfl (G10 49 _ rfl hl_49) rfl ?_
  refine xi_iload_n (pc' := 30) (x := hr) kc_136_29 rfl rfl ?_
  refine xi_aload_n (pc' := 31) (x := 63) kc_136_30 rfl rfl ?_
  refine xi_getfield (pc' := 34) (v := .ref 65) kc_136_31 rfl rfl rfl (G10 63 _ rfl hl_63) rfl ?_
  refine xi_iload_n (pc' := 35) (x := 10) kc_136_34 rfl rfl ?_
  refine xi_iaload (pc' := 36) (v := 0) kc_136_35 rfl (G10 65 _ rfl hl_65) (by decide) rfl (xi_in (n := 12) (by decide) (by decide)) rfl ?_
  refine xi_iastore (pc' := 37) (x' := List.replicate 600 0) kc_136_36 rfl (G10 50 _ rfl hl_50) rfl (xi_in (by omega) (by rw [List.length_replicate]; omega)) xa_sr (fun hh11 eh11 => ?_)
  have G11 := xg_keep G10 eh11 hl_50
  have A11_0 := (eh11.2.1 0 (by decide)).trans A10_0
  have A11_64 := (eh11.2.1 64 (by decide)).trans A10_64
  have n11 := eh11.2.2.1.trans n10
  have z11 := eh11.2.2.2.trans z10
  clear G10 n10 z10 A10_0 A10_64 eh11
  refine xi_aload_n (pc' := 38) (x := 63) kc_136_37 rfl rfl ?_
  refine xi_getfield (pc' := 41) (v := .ref 65) kc_136_38 rfl rfl rfl (G11 63 _ rfl hl_63) rfl ?_
  refine xi_iload_n (pc' := 42) (x := 10) kc_136_41 rfl rfl ?_
  refine xi_iaload (pc' := 43) (v := 0) kc_136_42 rfl (G11 65 _ rfl hl_65) (by decide) rfl (xi_in (n := 12) (by decide) (by decide)) rfl ?_
  refine xi_bipush (pc' := 45) (v := 50) kc_136_43 rfl rfl ?_
  refine xi_cmt (pc' := 63) kc_136_45 rfl rfl ?_
  refine xi_iinc (pc' := 66) (x := 10) (v := 11) (lv' := [(3, .int 11), (0, .ref 1), (1, .ref 63), (2, .int hr)]) kc_136_63 rfl rfl rfl rfl (xm_lt ml_136 rfl) ?_
  refine xi_goto (pc' := 14) kc_136_66 rfl ?_
  refine xi_iload_n (pc' := 15) (x := 11) kc_136_14 rfl rfl ?_
  refine xi_bipush (pc' := 17) (v := 12) kc_136_15 rfl rfl ?_
  refine xi_cmf (pc' := 20) kc_136_17 rfl rfl ?_
  refine xi_aload_n (pc' := 21) (x := 1) kc_136_20 rfl rfl ?_
  refine xi_getfield (pc' := 24) (v := .ref 3) kc_136_21 rfl rfl rfl (G11 1 _ rfl hl_1) rfl ?_
  refine xi_iload_n (pc' := 25) (x := 11) kc_136_24 rfl rfl ?_
  refine xi_aaload (pc' := 26) (b := 51) kc_136_25 rfl (G11 3 _ rfl hl_3) rfl (xi_in (n := 12) (by decide) (by decide)) rfl ?_
  refine xi_getfield (pc' := 29) (v := .ref 52) kc_136_26 rfl rfl rfl (G11 51 _ rfl hl_51) rfl ?_
  refine xi_iload_n (pc' := 30) (x := hr) kc_136_29 rfl rfl ?_
  refine xi_aload_n (pc' := 31) (x := 63) kc_136_30 rfl rfl ?_
  refine xi_getfield (pc' := 34) (v := .ref 65) kc_136_31 rfl rfl rfl (G11 63 _ rfl hl_63) rfl ?_
  refine xi_iload_n (pc' := 35) (x := 11) kc_136_34 rfl rfl ?_
  refine xi_iaload (pc' := 36) (v := 0) kc_136_35 rfl (G11 65 _ rfl hl_65) (by decide) rfl (xi_in (n := 12) (by decide) (by decide)) rfl ?_
  refine xi_iastore (pc' := 37) (x' := List.replicate 600 0) kc_136_36 rfl (G11 52 _ rfl hl_52) rfl (xi_in (by omega) (by rw [List.length_replicate]; omega)) xa_sr (fun hh12 eh12 => ?_)
  have G12 := xg_keep G11 eh12 hl_52
  have A12_0 := (eh12.2.1 0 (by decide)).trans A11_0
  have A12_64 := (eh12.2.1 64 (by decide)).trans A11_64
  have n12 := eh12.2.2.1.trans n11
  have z12 := eh12.2.2.2.trans z11
  clear G11 n11 z11 A11_0 A11_64 eh12
  refine xi_aload_n (pc' := 38) (x := 63) kc_136_37 rfl rfl ?_
  refine xi_getfield (pc' := 41) (v := .ref 65) kc_136_38 rfl rfl rfl (G12 63 _ rfl hl_63) rfl ?_
  refine xi_iload_n (pc' := 42) (x := 11) kc_136_41 rfl rfl ?_
  refine xi_iaload (pc' := 43) (v := 0) kc_136_42 rfl (G12 65 _ rfl hl_65) (by decide) rfl (xi_in (n := 12) (by decide) (by decide)) rfl ?_
  refine xi_bipush (pc' := 45) (v := 50) kc_136_43 rfl rfl ?_
  refine xi_cmt (pc' := 63) kc_136_45 rfl rfl ?_
  refine xi_iinc (pc' := 66) (x := 11) (v := 12) (lv' := [(3, .int 12), (0, .ref 1), (1, .ref 63), (2, .int hr)]) kc_136_63 rfl rfl rfl rfl (xm_lt ml_136 rfl) ?_
  refine xi_goto (pc' := 14) kc_136_66 rfl ?_
  refine xi_iload_n (pc' := 15) (x := 12) kc_136_14 rfl rfl ?_
  refine xi_bipush (pc' := 17) (v := 12) kc_136_15 rfl rfl ?_
  refine xi_cmt (pc' := 69) kc_136_17 rfl rfl ?_
  refine xi_return kc_136_69 mr_136 ?_
  exact kk w0 w1 w2 w3 w4 w5 hh12 (by first | omega | decide) (by first | omega | decide) (by first | omega | decide) (by first | omega | decide) (by first | omega | decide) (by first | omega | decide) (by first | omega | decide) (by first | omega | decide) (by first | omega | decide) (by first | omega | decide) (by first | omega | decide) (by first | omega | decide) G12 A12_0 A12_64 n12 z12
set_option maxHeartbeats 8000000 in
set_option maxRecDepth 20000 in
theorem ha_live {J : xe_J} {ov : List (List Int32)} {d N Z : Nat} (hJ : ∀ d mj as h, mj ≠ xe_loff → J d mj as h = none) {Q : Option Value → xe_H → Prop} {hr w0 w1 w2 w3 w4 w5 : Int32} {h : xe_H} (h_0 : 0 ≤ w0.toInt) (h_1 : 0 ≤ w1.toInt) (h_2 : 0 ≤ w2.toInt) (h_3 : 0 ≤ w3.toInt) (h_4 : 0 ≤ w4.toInt) (h_5 : 0 ≤ w5.toInt) (h_6 : w0.toInt ≤ 880) (h_7 : w1.toInt ≤ 880) (h_8 : w2.toInt ≤ 880) (h_9 : w3.toInt ≤ 880) (h_10 : w4.toInt ≤ 880) (h_11 : w5.toInt ≤ 880) (h_12 : 0 ≤ hr.toInt) (h_13 : hr.toInt ≤ 599) (G0 : xg [0, 64] h) (A0_0 : h[0]? = some (.inr (0, [.ref 1, .ref 63, .ref 66, .ref 75, .ref 80, .ref 85, .ref 93, .ref 94, .int 0, .int hr]))) (A0_64 : h[64]? = some (.inl (0, .inl ([w0, w1, w2, w3, w4, w5])))) (n0 : h.length = N) (z0 : xe_sz h = Z) (kk : ∀ (hr_ w0_ w1_ w2_ w3_ w4_ w5_ : Int32) (h1 : xe_H), 0 ≤ w0_.toInt → 0 ≤ w1_.toInt → 0 ≤ w2_.toInt → 0 ≤ w3_.toInt → 0 ≤ w4_.toInt → 0 ≤ w5_.toInt → w0_.toInt ≤ 880 → w1_.toInt ≤ 880 → w2_.toInt ≤ 880 → w3_.toInt ≤ 880 → w4_.toInt ≤ 880 → w5_.toInt ≤ 880 → hr_.toInt = hr.toInt + 1 → xg [0, 64] h1 → h1[0]? = some (.inr (0, [.ref 1, .ref 63, .ref 66, .ref 75, .ref 80, .ref 85, .ref 93, .ref 94, .int 0, .int hr_])) → h1[64]? = some (.inl (0, .inl ([w0_, w1_, w2_, w3_, w4_, w5_]))) → h1.length = N → xe_sz h1 = Z → Q (none) h1) : xw J ov (d + 12) 123 (0, [(0, .ref 0)], [], h) Q := by
  refine xi_aload_n (pc' := 1) (x := 0) kc_123_0 rfl rfl ?_
  refine xi_virtual (mj := 124) (as := []) (st1 := []) (lv0 := [(0, .ref 0)]) kc_123_1 rfl rfl rfl rfl rfl A0_0 (Nat.le_of_ble_eq_true rfl) (hJ _ _ _ _ (by decide)) (xm_le ml_124 rfl) rfl ?_
  refine xi_iconst (pc' := 1) (v := 0) kc_124_0 rfl rfl ?_
  refine xi_istore_n (pc' := 2) (lv' := [(1, .int 0), (0, .ref 0)]) kc_124_1 rfl rfl (xm_lt ml_124 rfl) ?_
  refine xi_iload_n (pc' := 3) (x := 0) kc_124_2 rfl rfl ?_
  refine xi_aload_n (pc' := 4) (x := 0) kc_124_3 rfl rfl ?_
  refine xi_getfield (pc' := 7) (v := .int 0) kc_124_4 rfl rfl rfl A0_0 rfl ?_
  refine xi_cmt (pc' := 63) kc_124_7 rfl rfl ?_
  refine xi_return kc_124_63 mr_124 ?_
  show xw J ov (d + 12) 123 (4, [(0, .ref 0)], [], h) _
  refine xi_aload_n (pc' := 5) (x := 0) kc_123_4 rfl rfl ?_
  refine xi_getfield (pc' := 8) (v := .ref 1) kc_123_5 rfl rfl rfl A0_0 rfl ?_
  refine xi_aload_n (pc' := 9) (x := 0) kc_123_8 rfl rfl ?_
  refine xi_getfield (pc' := 12) (v := .ref 63) kc_123_9 rfl rfl rfl A0_0 rfl ?_
  refine xi_aload_n (pc' := 13) (x := 0) kc_123_12 rfl rfl ?_
  refine xi_getfield (pc' := 16) (v := .int hr) kc_123_13 rfl rfl rfl A0_0 rfl ?_
  refine xi_virtual (mj := 125) (as := [.ref 63, .int hr]) (st1 := []) (lv0 := [(0, .ref 1), (1, .ref 63), (2, .int hr)]) kc_123_16 rfl rfl rfl rfl rfl (G0 1 _ rfl hl_1) (Nat.le_of_ble_eq_true rfl) (hJ _ _ _ _ (by decide)) (xm_le ml_125 rfl) rfl ?_
  refine ha_pass hJ (by first | omega | decide) (by first | omega | decide) (by first | omega | decide) (by first | omega | decide) (by first | omega | decide) (by first | omega | decide) (by first | omega | decide) (by first | omega | decide) (by first | omega | decide) (by first | omega | decide) (by first | omega | decide) (by first | omega | decide) (by first | omega | decide) (by first | omega | decide) G0 A0_0 A0_64 n0 z0 (fun w0_1 w1_1 w2_1 w3_1 w4_1 w5_1 hh1 q1_0 q1_1 q1_2 q1_3 q1_4 q1_5 q1_6 q1_7 q1_8 q1_9 q1_10 q1_11 G1 A1_0 A1_64 n1 z1 => ?_)
  show xw J ov (d + 12) 123 (19, [(0, .ref 0)], [], hh1) _
  refine xi_aload_n (pc' := 20) (x := 0) kc_123_19 rfl rfl ?_
  refine xi_getfield (pc' := 23) (v := .ref 1) kc_123_20 rfl rfl rfl A1_0 rfl ?_
  refine xi_aload_n (pc' := 24) (x := 0) kc_123_23 rfl rfl ?_
  refine xi_getfield (pc' := 27) (v := .ref 63) kc_123_24 rfl rfl rfl A1_0 rfl ?_
  refine xi_aload_n (pc' := 28) (x := 0) kc_123_27 rfl rfl ?_
  refine xi_getfield (pc' := 31) (v := .int hr) kc_123_28 rfl rfl rfl A1_0 rfl ?_
  refine xi_virtual (mj := 136) (as := [.ref 63, .int hr]) (st1 := []) (lv0 := [(0, .ref 1), (1, .ref 63), (2, .int hr)]) kc_123_31 rfl rfl rfl rfl rfl (G1 1 _ rfl hl_1) (Nat.le_of_ble_eq_true rfl) (hJ _ _ _ _ (by decide)) (xm_le ml_136 rfl) rfl ?_
  refine ha_note hJ (by first | omega | decide) (by first | omega | decide) (by first | omega | decide) (by first | omega | decide) (by first | omega | decide) (by first | omega | decide) (by first | omega | decide) (by first | omega | decide) (by first | omega | decide) (by first | omega | decide) (by first | omega | decide) (by first | omega | decide) (by first | omega | decide) (by first | omega | decide) G1 A1_0 A1_64 n1 z1 (fun w0_2 w1_2 w2_2 w3_2 w4_2 w5_2 hh2 q2_0 q2_1 q2_2 q2_3 q2_4 q2_5 q2_6 q2_7 q2_8 q2_9 q2_10 q2_11 G2 A2_0 A2_64 n2 z2 => ?_)
  show xw J ov (d + 12) 123 (34, [(0, .ref 0)], [], hh2) _
  refine xi_aload_n (pc' := 35) (x := 0) kc_123_34 rfl rfl ?_
  refine xi_dup (pc' := 36) kc_123_35 rfl rfl ?_
  refine xi_getfield (pc' := 39) (v := .int hr) kc_123_36 rfl rfl rfl A2_0 rfl ?_
  refine xi_iconst (pc' := 40) (v := 1) kc_123_39 rfl rfl ?_
  obtain ⟨v1, ev1⟩ : ∃ q : Int32, hr + 1 = q := ⟨_, rfl⟩
  have zv1 : v1.toInt = (hr.toInt + 1) := by rw [← ev1]; exact (xz_add (X := hr.toInt) (Y := 1) rfl (by decide) (by omega) (by omega)).trans (by omega)
  refine xi_iadd (pc' := 41) (v := v1) kc_123_40 rfl ev1 ?_
  refine xi_putfield (pc' := 44) (fs' := [.ref 1, .ref 63, .ref 66, .ref 75, .ref 80, .ref 85, .ref 93, .ref 94, .int 0, .int v1]) kc_123_41 rfl rfl rfl A2_0 rfl rfl rfl (Nat.le_of_ble_eq_true rfl) rfl (fun hh3 eh3 => ?_)
  have G3 := xg_skip G2 eh3 rfl
  have A3_0 := eh3.1
  have A3_64 := (eh3.2.1 64 (by decide)).trans A2_64
  have n3 := eh3.2.2.1.trans n2
  have z3 := eh3.2.2.2.trans z2
  clear G2 n2 z2 A2_0 A2_64 eh3
  refine xi_aload_n (pc' := 45) (x := 0) kc_123_44 rfl rfl ?_
  refine xi_virtual (mj := 137) (as := []) (st1 := []) (lv0 := [(0, .ref 0)]) kc_123_45 rfl rfl rfl rfl rfl A3_0 (Nat.le_of_ble_eq_true rfl) (hJ _ _ _ _ (by decide)) (xm_le ml_137 rfl) rfl ?_
  refine xi_iconst (pc' := 1) (v := 0) kc_137_0 rfl rfl ?_
  refine xi_istore_n (pc' := 2) (lv' := [(1, .int 0), (0, .ref 0)]) kc_137_1 rfl rfl (xm_lt ml_137 rfl) ?_
  refine xi_iload_n (pc' := 3) (x := 0) kc_137_2 rfl rfl ?_
  refine xi_aload_n (pc' := 4) (x := 0) kc_137_3 rfl rfl ?_
  refine xi_getfield (pc' := 7) (v := .int 0) kc_137_4 rfl rfl rfl A3_0 rfl ?_
  refine xi_cmt (pc' := 60) kc_137_7 rfl rfl ?_
  refine xi_return kc_137_60 mr_137 ?_
  show xw J ov (d + 12) 123 (48, [(0, .ref 0)], [], hh3) _
  refine xi_return kc_123_48 mr_123 ?_
  exact kk v1 w0_2 w1_2 w2_2 w3_2 w4_2 w5_2 hh3 (by first | omega | decide) (by first | omega | decide) (by first | omega | decide) (by first | omega | decide) (by first | omega | decide) (by first | omega | decide) (by first | omega | decide) (by first | omega | decide) (by first | omega | decide) (by first | omega | decide) (by first | omega | decide) (by first | omega | decide) (by first | omega | decide) G3 A3_0 A3_64 n3 z3
set_option maxHeartbeats 8000000 in
set_option maxRecDepth 20000 in
theorem ha_hours {J : xe_J} {ov : List (List Int32)} {d N Z : Nat} (hJ : ∀ d mj as h, mj ≠ xe_loff → J d mj as h = none) {Q : Option Value → xe_H → Prop} {n : Int32} (kk : ∀ (hr_ w0_ w1_ w2_ w3_ w4_ w5_ : Int32) (h1 : xe_H), hr_.toInt = n.toInt → xg [0, 64] h1 → h1[0]? = some (.inr (0, [.ref 1, .ref 63, .ref 66, .ref 75, .ref 80, .ref 85, .ref 93, .ref 94, .int 0, .int hr_])) → h1[64]? = some (.inl (0, .inl ([w0_, w1_, w2_, w3_, w4_, w5_]))) → h1.length = N → xe_sz h1 = Z → Q (some (.int hr_)) h1) : ∀ (m : Nat) (i hr w0 w1 w2 w3 w4 w5 : Int32) (h : xe_H), 0 ≤ w0.toInt → 0 ≤ w1.toInt → 0 ≤ w2.toInt → 0 ≤ w3.toInt → 0 ≤ w4.toInt → 0 ≤ w5.toInt → w0.toInt ≤ 880 → w1.toInt ≤ 880 → w2.toInt ≤ 880 → w3.toInt ≤ 880 → w4.toInt ≤ 880 → w5.toInt ≤ 880 → 0 ≤ i.toInt → i.toInt ≤ n.toInt → n.toInt ≤ 600 → hr.toInt = i.toInt → n.toInt ≤ i.toInt + m → xg [0, 64] h → h[0]? = some (.inr (0, [.ref 1, .ref 63, .ref 66, .ref 75, .ref 80, .ref 85, .ref 93, .ref 94, .int 0, .int hr])) → h[64]? = some (.inl (0, .inl ([w0, w1, w2, w3, w4, w5]))) → h.length = N → xe_sz h = Z → xw J ov (d + 16) 122 (40, [(2, .int i), (0, .ref 0), (1, .int n)], [], h) Q := by
  intro m
  induction m with
  | zero =>
    intro i hr w0 w1 w2 w3 w4 w5 h h_0 h_1 h_2 h_3 h_4 h_5 h_6 h_7 h_8 h_9 h_10 h_11 h_12 h_13 h_14 h_15 h_m G0 A0_0 A0_64 n0 z0
    refine xi_iload_n (pc' := 41) (x := i) kc_122_40 rfl rfl ?_
    refine xi_iload_n (pc' := 42) (x := n) kc_122_41 rfl rfl ?_
    refine xi_cmt (pc' := 55) kc_122_42 rfl (xc_ge_t (X := i.toInt) (Y := n.toInt) rfl rfl (by omega)) ?_
    refine xi_aload_n (pc' := 56) (x := 0) kc_122_55 rfl rfl ?_
    refine xi_getfield (pc' := 59) (v := .int hr) kc_122_56 rfl rfl rfl A0_0 rfl ?_
    refine xi_ireturn kc_122_59 mr_122 rfl ?_
    exact kk hr w0 w1 w2 w3 w4 w5 h (by first | omega | decide) G0 A0_0 A0_64 n0 z0
  | succ m ih =>
    intro i hr w0 w1 w2 w3 w4 w5 h h_0 h_1 h_2 h_3 h_4 h_5 h_6 h_7 h_8 h_9 h_10 h_11 h_12 h_13 h_14 h_15 h_m G0 A0_0 A0_64 n0 z0
    refine xi_iload_n (pc' := 41) (x := i) kc_122_40 rfl rfl ?_
    refine xi_iload_n (pc' := 42) (x := n) kc_122_41 rfl rfl ?_
    by_cases c1 : n.toInt ≤ i.toInt
    · refine xi_cmt (pc' := 55) kc_122_42 rfl (xc_ge_t (X := i.toInt) (Y := n.toInt) rfl rfl (by omega)) ?_
      refine xi_aload_n (pc' := 56) (x := 0) kc_122_55 rfl rfl ?_
      refine xi_getfield (pc' := 59) (v := .int hr) kc_122_56 rfl rfl rfl A0_0 rfl ?_
      refine xi_ireturn kc_122_59 mr_122 rfl ?_
      exact kk hr w0 w1 w2 w3 w4 w5 h (by first | omega | decide) G0 A0_0 A0_64 n0 z0
    · refine xi_cmf (pc' := 45) kc_122_42 rfl (xc_ge_f (X := i.toInt) (Y := n.toInt) rfl rfl (by omega)) ?_
      refine xi_aload_n (pc' := 46) (x := 0) kc_122_45 rfl rfl ?_
      refine xi_virtual (mj := 123) (as := []) (st1 := []) (lv0 := [(0, .ref 0)]) kc_122_46 rfl rfl rfl rfl rfl A0_0 (Nat.le_of_ble_eq_true rfl) (hJ _ _ _ _ (by decide)) (xm_le ml_123 rfl) rfl ?_
      refine ha_live hJ (by first | omega | decide) (by first | omega | decide) (by first | omega | decide) (by first | omega | decide) (by first | omega | decide) (by first | omega | decide) (by first | omega | decide) (by first | omega | decide) (by first | omega | decide) (by first | omega | decide) (by first | omega | decide) (by first | omega | decide) (by first | omega | decide) (by first | omega | decide) G0 A0_0 A0_64 n0 z0 (fun hr_1 w0_1 w1_1 w2_1 w3_1 w4_1 w5_1 hh1 q1_0 q1_1 q1_2 q1_3 q1_4 q1_5 q1_6 q1_7 q1_8 q1_9 q1_10 q1_11 q1_12 G1 A1_0 A1_64 n1 z1 => ?_)
      show xw J ov (d + 16) 122 (49, [(2, .int i), (0, .ref 0), (1, .int n)], [], hh1) _
      obtain ⟨v2, ev2⟩ : ∃ q : Int32, i + 1 = q := ⟨_, rfl⟩
      have zv2 : v2.toInt = (i.toInt + 1) := by rw [← ev2]; exact (xz_add (X := i.toInt) (Y := 1) rfl (by decide) (by omega) (by omega)).trans (by omega)
      refine xi_iinc (pc' := 52) (x := i) (v := v2) (lv' := [(2, .int v2), (0, .ref 0), (1, .int n)]) kc_122_49 rfl rfl ev2 rfl (xm_lt ml_122 rfl) ?_
      refine xi_goto (pc' := 40) kc_122_52 rfl ?_
      exact ih v2 hr_1 w0_1 w1_1 w2_1 w3_1 w4_1 w5_1 hh1 (by first | omega | decide) (by first | omega | decide) (by first | omega | decide) (by first | omega | decide) (by first | omega | decide) (by first | omega | decide) (by first | omega | decide) (by first | omega | decide) (by first | omega | decide) (by first | omega | decide) (by first | omega | decide) (by first | omega | decide) (by first | omega | decide) (by first | omega | decide) (by first | omega | decide) (by first | omega | decide) (by first | omega | decide) G1 A1_0 A1_64 n1 z1
set_option maxHeartbeats 8000000 in
set_option maxRecDepth 20000 in
theorem hb_room0 {J : xe_J} {ov : List (List Int32)} {d N Z : Nat} (hJ : ∀ d mj as h, mj ≠ xe_loff → J d mj as h = none) {Q : Option Value → xe_H → Prop} {hr w0 w1 w2 w3 w4 w5 y0 y1 y2 y3 y4 y5 : Int32} {h : xe_H} (h_0 : 0 ≤ y0.toInt) (h_1 : 0 ≤ y1.toInt) (h_2 : 0 ≤ y2.toInt) (h_3 : 0 ≤ y3.toInt) (h_4 : 0 ≤ y4.toInt) (h_5 : 0 ≤ y5.toInt) (h_6 : y0.toInt ≤ 880) (h_7 : y1.toInt ≤ 880) (h_8 : y2.toInt ≤ 880) (h_9 : y3.toInt ≤ 880) (h_10 : y4.toInt ≤ 880) (h_11 : y5.toInt ≤ 880) (h_12 : 0 ≤ hr.toInt) (h_13 : hr.toInt ≤ 599) (G0 : xg [0, 64, 115, 121, 141] h) (A0_115 : h[115]? = some (.inr (12, [.int 0, .int hr, .ref 116, .ref 117, .ref 118, .ref 119, .ref 120, .ref 121, .ref 122, .ref 123, .ref 124, .ref 125, .ref 126, .ref 127, .ref 128, .ref 129, .int 4, .ref 130, .int 0, .ref 131, .ref 132, .ref 133, .ref 134, .int 0, .ref 135, .ref 136, .ref 137, .ref 138, .ref 139, .ref 140, .ref 141, .ref 142, .int 5, .int 0, .int 0, .ref 143, .ref 144, .ref 145, .ref 146, .ref 147, .ref 148, .int 0, .ref 149, .ref 150, .ref 151, .int 0, .ref 152, .ref 153, .ref 154, .ref 155, .ref 156, .ref 157, .ref 158, .ref 159, .int 0, .ref 160, .int 0, .ref 161, .ref 162, .ref 163, .ref 164, .int 0, .ref 165, .ref 166]))) (A0_121 : h[121]? = some (.inl (0, .inl ([w0, w1, w2, w3, w4, w5])))) (A0_141 : h[141]? = some (.inl (0, .inl ([y0, y1, y2, y3, y4, y5])))) (n0 : h.length = N) (z0 : xe_sz h = Z) (kk : ∀ (y0_ y1_ y2_ y3_ y4_ y5_ : Int32) (h1 : xe_H), 0 ≤ y0_.toInt → 0 ≤ y1_.toInt → 0 ≤ y2_.toInt → 0 ≤ y3_.toInt → 0 ≤ y4_.toInt → 0 ≤ y5_.toInt → y0_.toInt ≤ 880 → y1_.toInt ≤ 880 → y2_.toInt ≤ 880 → y3_.toInt ≤ 880 → y4_.toInt ≤ 880 → y5_.toInt ≤ 880 → xg [0, 64, 115, 121, 141] h1 → h1[115]? = some (.inr (12, [.int 0, .int hr, .ref 116, .ref 117, .ref 118, .ref 119, .ref 120, .ref 121, .ref 122, .ref 123, .ref 124, .ref 125, .ref 126, .ref 127, .ref 128, .ref 129, .int 4, .ref 130, .int 0, .ref 131, .ref 132, .ref 133, .ref 134, .int 0, .ref 135, .ref 136, .ref 137, .ref 138, .ref 139, .ref 140, .ref 141, .ref 142, .int 5, .int 0, .int 0, .ref 143, .ref 144, .ref 145, .ref 146, .ref 147, .ref 148, .int 0, .ref 149, .ref 150, .ref 151, .int 0, .ref 152, .ref 153, .ref 154, .ref 155, .ref 156, .ref 157, .ref 158, .ref 159, .int 0, .ref 160, .int 0, .ref 161, .ref 162, .ref 163, .ref 164, .int 0, .ref 165, .ref 166])) → h1[121]? = some (.inl (0, .inl ([w0, w1, w2, w3, w4, w5]))) → h1[141]? = some (.inl (0, .inl ([y0_, y1_, y2_, y3_, y4_, y5_]))) → h1.length = N → xe_sz h1 = Z → Q (none) h1) : xw J ov (d + 4) 38 (0, [(0, .ref 115), (1, .int 0), (2, .int 0), (3, .int 1), (4, .int hr)], [], h) Q := by
  refine xi_aload_n (pc' := 1) (x := 115) kc_38_0 rfl rfl ?_
  refine xi_getfield (pc' := 4) (v := .ref 141) kc_38_1 rfl rfl rfl A0_115 rfl ?_
  refine xi_iload_n (pc' := 5) (x := 0) kc_38_4 rfl rfl ?_
  refine xi_iaload (pc' := 6) (v := y0) kc_38_5 rfl A0_141 (by decide) rfl (xi_in (n := 6) (by decide) (by decide)) rfl ?_
  refine xi_aload_n (pc' := 7) (x := 115) kc_38_6 rfl rfl ?_
  refine xi_getfield (pc' := 10) (v := .ref 122) kc_38_7 rfl rfl rfl A0_115 rfl ?_
  refine xi_bipush (pc' := 12) (v := 24) kc_38_10 rfl rfl ?_
  refine xi_iload_n (pc' := 13) (x := 0) kc_38_12 rfl rfl ?_
  refine xi_imul (pc' := 14) (v := 0) kc_38_13 rfl rfl ?_
  refine xi_iload (pc' := 16) (x := hr) kc_38_14 rfl rfl ?_
  refine xi_bipush (pc' := 18) (v := 24) kc_38_16 rfl rfl ?_
  obtain ⟨v1, ev1⟩ : ∃ q : Int32, hr - hr / 24 * 24 = q := ⟨_, rfl⟩
  have dv1 : 0 ≤ v1.toInt ∧ v1.toInt < 24 := by rw [← ev1]; exact xz_rem (X := hr.toInt) (Y := 24) rfl (by decide) (by omega) (by decide)
  refine xi_irem (pc' := 19) (v := v1) kc_38_18 rfl ev1 (by decide) ?_
  obtain ⟨v2, ev2⟩ : ∃ q : Int32, 0 + v1 = q := ⟨_, rfl⟩
  have zv2 : v2.toInt = v1.toInt := by rw [← ev2]; exact (xz_add (X := 0) (Y := v1.toInt) (by decide) rfl (by omega) (by omega)).trans (by omega)
  refine xi_iadd (pc' := 20) (v := v2) kc_38_19 rfl ev2 ?_
  refine xi_iaload (pc' := 21) (v := 0) kc_38_20 rfl (G0 122 _ rfl hl_122) (by decide) rfl (xi_in (by rw [zv2]; omega) (by rw [zv2]; simp only [List.length_replicate]; omega)) (xa_rep (by rw [zv2]; omega) (by rw [zv2]; omega)) ?_
  obtain ⟨v3, ev3⟩ : ∃ q : Int32, y0 + 0 = q := ⟨_, rfl⟩
  have zv3 : v3.toInt = y0.toInt := by rw [← ev3]; exact (xz_add (X := y0.toInt) (Y := 0) rfl (by decide) (by omega) (by omega)).trans (by omega)
  refine xi_iadd (pc' := 22) (v := v3) kc_38_21 rfl ev3 ?_
  refine xi_istore (pc' := 24) (lv' := [(5, .int v3), (0, .ref 115), (1, .int 0), (2, .int 0), (3, .int 1), (4, .int hr)]) kc_38_22 rfl rfl (xm_lt ml_38 rfl) ?_
  refine xi_iconst (pc' := 25) (v := 0) kc_38_24 rfl rfl ?_
  refine xi_istore (pc' := 27) (lv' := [(6, .int 0), (5, .int v3), (0, .ref 115), (1, .int 0), (2, .int 0), (3, .int 1), (4, .int hr)]) kc_38_25 rfl rfl (xm_lt ml_38 rfl) ?_
  refine xi_iload (pc' := 29) (x := 0) kc_38_27 rfl rfl ?_
  refine xi_aload_n (pc' := 30) (x := 115) kc_38_29 rfl rfl ?_
  refine xi_getfield (pc' := 33) (v := .int 0) kc_38_30 rfl rfl rfl A0_115 rfl ?_
  refine xi_cmt (pc' := 93) kc_38_33 rfl rfl ?_
  refine xi_iload (pc' := 95) (x := v3) kc_38_93 rfl rfl ?_
  refine xi_static (mj := 40) (as := [.int v3]) (st1 := []) (lv0 := [(0, .int v3)]) kc_38_95 rfl rfl (Nat.le_of_ble_eq_true rfl) rfl rfl (Nat.le_of_ble_eq_true rfl) (hJ _ _ _ _ (by decide)) (xm_le ml_40 rfl) rfl ?_
  refine xi_iload_n (pc' := 1) (x := v3) kc_40_0 rfl rfl ?_
  refine xi_ift (pc' := 8) kc_40_1 rfl (xc_ge_t (X := y0.toInt) (Y := 0) zv3 (by decide) (by omega)) ?_
  refine xi_iload_n (pc' := 9) (x := v3) kc_40_8 rfl rfl ?_
  refine xi_ldc (pc' := 11) (v := 99999) kc_40_9 rfl rfl ?_
  refine xi_cmt (pc' := 19) kc_40_11 rfl (xc_le_t (X := y0.toInt) (Y := 99999) zv3 (by decide) (by omega)) ?_
  refine xi_iload_n (pc' := 20) (x := v3) kc_40_19 rfl rfl ?_
  refine xi_ireturn kc_40_20 mr_40 rfl ?_
  show xw J ov (d + 4) 38 (98, [(6, .int 0), (5, .int v3), (0, .ref 115), (1, .int 0), (2, .int 0), (3, .int 1), (4, .int hr)], [.int v3], h) _
  refine xi_istore (pc' := 100) (lv' := [(5, .int v3), (6, .int 0), (0, .ref 115), (1, .int 0), (2, .int 0), (3, .int 1), (4, .int hr)]) kc_38_98 rfl rfl (xm_lt ml_38 rfl) ?_
  refine xi_aload_n (pc' := 101) (x := 115) kc_38_100 rfl rfl ?_
  refine xi_getfield (pc' := 104) (v := .ref 116) kc_38_101 rfl rfl rfl A0_115 rfl ?_
  refine xi_iload_n (pc' := 105) (x := 0) kc_38_104 rfl rfl ?_
  refine xi_iaload (pc' := 106) (v := 40) kc_38_105 rfl (G0 116 _ rfl hl_116) (by decide) rfl (xi_in (n := 6) (by decide) (by decide)) rfl ?_
  refine xi_aload_n (pc' := 107) (x := 115) kc_38_106 rfl rfl ?_
  refine xi_getfield (pc' := 110) (v := .int 5) kc_38_107 rfl rfl rfl A0_115 rfl ?_
  refine xi_static (mj := 23) (as := [.int 5]) (st1 := [.int 40]) (lv0 := [(0, .int 5)]) kc_38_110 rfl rfl (Nat.le_of_ble_eq_true rfl) rfl rfl (Nat.le_of_ble_eq_true rfl) (hJ _ _ _ _ (by decide)) (xm_le ml_23 rfl) rfl ?_
  refine xi_iload_n (pc' := 1) (x := 5) kc_23_0 rfl rfl ?_
  refine xi_iff (pc' := 4) kc_23_1 rfl rfl ?_
  refine xi_iconst (pc' := 5) (v := 5) kc_23_4 rfl rfl ?_
  refine xi_iload_n (pc' := 6) (x := 5) kc_23_5 rfl rfl ?_
  refine xi_iconst (pc' := 7) (v := 2) kc_23_6 rfl rfl ?_
  refine xi_idiv (pc' := 8) (v := 2) kc_23_7 rfl rfl (by decide) ?_
  refine xi_iadd (pc' := 9) (v := 7) kc_23_8 rfl rfl ?_
  refine xi_iload_n (pc' := 10) (x := 5) kc_23_9 rfl rfl ?_
  refine xi_iload_n (pc' := 11) (x := 5) kc_23_10 rfl rfl ?_
  refine xi_imul (pc' := 12) (v := 25) kc_23_11 rfl rfl ?_
  refine xi_bipush (pc' := 14) (v := 40) kc_23_12 rfl rfl ?_
  refine xi_idiv (pc' := 15) (v := 0) kc_23_14 rfl rfl (by decide) ?_
  refine xi_iadd (pc' := 16) (v := 7) kc_23_15 rfl rfl ?_
  refine xi_ireturn kc_23_16 mr_23 rfl ?_
  show xw J ov (d + 4) 38 (113, [(5, .int v3), (6, .int 0), (0, .ref 115), (1, .int 0), (2, .int 0), (3, .int 1), (4, .int hr)], [.int 7, .int 40], h) _
  refine xi_imul (pc' := 114) (v := 280) kc_38_113 rfl rfl ?_
  refine xi_iconst (pc' := 115) (v := 2) kc_38_114 rfl rfl ?_
  refine xi_idiv (pc' := 116) (v := 140) kc_38_115 rfl rfl (by decide) ?_
  refine xi_istore (pc' := 118) (lv' := [(6, .int 140), (5, .int v3), (0, .ref 115), (1, .int 0), (2, .int 0), (3, .int 1), (4, .int hr)]) kc_38_116 rfl rfl (xm_lt ml_38 rfl) ?_
  refine xi_iload (pc' := 120) (x := v3) kc_38_118 rfl rfl ?_
  refine xi_iload (pc' := 122) (x := v3) kc_38_120 rfl rfl ?_
  refine xi_iload (pc' := 124) (x := 140) kc_38_122 rfl rfl ?_
  obtain ⟨v4, ev4⟩ : ∃ q : Int32, v3 - 140 = q := ⟨_, rfl⟩
  have zv4 : v4.toInt = (y0.toInt + (-140)) := by rw [← ev4]; exact (xz_sub (X := y0.toInt) (Y := 140) zv3 (by decide) (by omega) (by omega)).trans (by omega)
  refine xi_isub (pc' := 125) (v := v4) kc_38_124 rfl ev4 ?_
  refine xi_aload_n (pc' := 126) (x := 115) kc_38_125 rfl rfl ?_
  refine xi_getfield (pc' := 129) (v := .ref 118) kc_38_126 rfl rfl rfl A0_115 rfl ?_
  refine xi_iload_n (pc' := 130) (x := 0) kc_38_129 rfl rfl ?_
  refine xi_iaload (pc' := 131) (v := 10) kc_38_130 rfl (G0 118 _ rfl hl_118) (by decide) rfl (xi_in (n := 6) (by decide) (by decide)) rfl ?_
  refine xi_aload_n (pc' := 132) (x := 115) kc_38_131 rfl rfl ?_
  refine xi_getfield (pc' := 135) (v := .ref 120) kc_38_132 rfl rfl rfl A0_115 rfl ?_
  refine xi_iload_n (pc' := 136) (x := 0) kc_38_135 rfl rfl ?_
  refine xi_iaload (pc' := 137) (v := 0) kc_38_136 rfl (G0 120 _ rfl hl_120) (by decide) rfl (xi_in (n := 6) (by decide) (by decide)) rfl ?_
  refine xi_iconst (pc' := 138) (v := 1) kc_38_137 rfl rfl ?_
  refine xi_cmt (pc' := 150) kc_38_138 rfl rfl ?_
  refine xi_iconst (pc' := 151) (v := 0) kc_38_150 rfl rfl ?_
  refine xi_iadd (pc' := 152) (v := 10) kc_38_151 rfl rfl ?_
  obtain ⟨v5, ev5⟩ : ∃ q : Int32, v4 * 10 = q := ⟨_, rfl⟩
  have zv5 : v5.toInt = ((10) * y0.toInt + (-1400)) := by rw [← ev5]; exact (xz_mul (X := (y0.toInt + (-140))) (Y := 10) zv4 (by decide) (by omega) (by omega)).trans (by omega)
  refine xi_imul (pc' := 153) (v := v5) kc_38_152 rfl ev5 ?_
  refine xi_bipush (pc' := 155) (v := 100) kc_38_153 rfl rfl ?_
  obtain ⟨v6, ev6⟩ : ∃ q : Int32, v5 / 100 = q := ⟨_, rfl⟩
  have dv6 : 100 * v6.toInt ≤ ((10) * y0.toInt + (-1400)) + 99 ∧ ((10) * y0.toInt + (-1400)) ≤ 100 * v6.toInt + 99 := by rw [← ev6]; exact xz_div (X := ((10) * y0.toInt + (-1400))) (Y := 100) zv5 (by decide) (by decide)
  have bv6 : -15 ≤ v6.toInt ∧ v6.toInt ≤ 75 := by omega
  refine xi_idiv (pc' := 156) (v := v6) kc_38_155 rfl ev6 (by decide) ?_
  obtain ⟨v7, ev7⟩ : ∃ q : Int32, v3 - v6 = q := ⟨_, rfl⟩
  have zv7 : v7.toInt = (y0.toInt + (-1) * v6.toInt) := by rw [← ev7]; exact (xz_sub (X := y0.toInt) (Y := v6.toInt) zv3 rfl (by omega) (by omega)).trans (by omega)
  have bv7 : 0 ≤ v7.toInt ∧ v7.toInt ≤ 880 := by omega
  refine xi_isub (pc' := 157) (v := v7) kc_38_156 rfl ev7 ?_
  refine xi_static (mj := 40) (as := [.int v7]) (st1 := []) (lv0 := [(0, .int v7)]) kc_38_157 rfl rfl (Nat.le_of_ble_eq_true rfl) rfl rfl (Nat.le_of_ble_eq_true rfl) (hJ _ _ _ _ (by decide)) (xm_le ml_40 rfl) rfl ?_
  refine xi_iload_n (pc' := 1) (x := v7) kc_40_0 rfl rfl ?_
  refine xi_ift (pc' := 8) kc_40_1 rfl (xc_ge_t (X := v7.toInt) (Y := 0) rfl (by decide) (by omega)) ?_
  refine xi_iload_n (pc' := 9) (x := v7) kc_40_8 rfl rfl ?_
  refine xi_ldc (pc' := 11) (v := 99999) kc_40_9 rfl rfl ?_
  refine xi_cmt (pc' := 19) kc_40_11 rfl (xc_le_t (X := v7.toInt) (Y := 99999) rfl (by decide) (by omega)) ?_
  refine xi_iload_n (pc' := 20) (x := v7) kc_40_19 rfl rfl ?_
  refine xi_ireturn kc_40_20 mr_40 rfl ?_
  show xw J ov (d + 4) 38 (160, [(6, .int 140), (5, .int v3), (0, .ref 115), (1, .int 0), (2, .int 0), (3, .int 1), (4, .int hr)], [.int v7], h) _
  refine xi_istore (pc' := 162) (lv' := [(5, .int v7), (6, .int 140), (0, .ref 115), (1, .int 0), (2, .int 0), (3, .int 1), (4, .int hr)]) kc_38_160 rfl rfl (xm_lt ml_38 rfl) ?_
  refine xi_aload_n (pc' := 163) (x := 115) kc_38_162 rfl rfl ?_
  refine xi_getfield (pc' := 166) (v := .ref 116) kc_38_163 rfl rfl rfl A0_115 rfl ?_
  refine xi_iload_n (pc' := 167) (x := 0) kc_38_166 rfl rfl ?_
  refine xi_iaload (pc' := 168) (v := 40) kc_38_167 rfl (G0 116 _ rfl hl_116) (by decide) rfl (xi_in (n := 6) (by decide) (by decide)) rfl ?_
  refine xi_aload_n (pc' := 169) (x := 115) kc_38_168 rfl rfl ?_
  refine xi_getfield (pc' := 172) (v := .ref 117) kc_38_169 rfl rfl rfl A0_115 rfl ?_
  refine xi_iload_n (pc' := 173) (x := 0) kc_38_172 rfl rfl ?_
  refine xi_iaload (pc' := 174) (v := 18) kc_38_173 rfl (G0 117 _ rfl hl_117) (by decide) rfl (xi_in (n := 6) (by decide) (by decide)) rfl ?_
  refine xi_static (mj := 23) (as := [.int 18]) (st1 := [.int 40]) (lv0 := [(0, .int 18)]) kc_38_174 rfl rfl (Nat.le_of_ble_eq_true rfl) rfl rfl (Nat.le_of_ble_eq_true rfl) (hJ _ _ _ _ (by decide)) (xm_le ml_23 rfl) rfl ?_
  refine xi_iload_n (pc' := 1) (x := 18) kc_23_0 rfl rfl ?_
  refine xi_iff (pc' := 4) kc_23_1 rfl rfl ?_
  refine xi_iconst (pc' := 5) (v := 5) kc_23_4 rfl rfl ?_
  refine xi_iload_n (pc' := 6) (x := 18) kc_23_5 rfl rfl ?_
  refine xi_iconst (pc' := 7) (v := 2) kc_23_6 rfl rfl ?_
  refine xi_idiv (pc' := 8) (v := 9) kc_23_7 rfl rfl (by decide) ?_
  refine xi_iadd (pc' := 9) (v := 14) kc_23_8 rfl rfl ?_
  refine xi_iload_n (pc' := 10) (x := 18) kc_23_9 rfl rfl ?_
  refine xi_iload_n (pc' := 11) (x := 18) kc_23_10 rfl rfl ?_
  refine xi_imul (pc' := 12) (v := 324) kc_23_11 rfl rfl ?_
  refine xi_bipush (pc' := 14) (v := 40) kc_23_12 rfl rfl ?_
  refine xi_idiv (pc' := 15) (v := 8) kc_23_14 rfl rfl (by decide) ?_
  refine xi_iadd (pc' := 16) (v := 22) kc_23_15 rfl rfl ?_
  refine xi_ireturn kc_23_16 mr_23 rfl ?_
  show xw J ov (d + 4) 38 (177, [(5, .int v7), (6, .int 140), (0, .ref 115), (1, .int 0), (2, .int 0), (3, .int 1), (4, .int hr)], [.int 22, .int 40], h) _
  refine xi_imul (pc' := 178) (v := 880) kc_38_177 rfl rfl ?_
  refine xi_istore (pc' := 180) (lv' := [(7, .int 880), (5, .int v7), (6, .int 140), (0, .ref 115), (1, .int 0), (2, .int 0), (3, .int 1), (4, .int hr)]) kc_38_178 rfl rfl (xm_lt ml_38 rfl) ?_
  refine xi_iload (pc' := 182) (x := v7) kc_38_180 rfl rfl ?_
  refine xi_iload (pc' := 184) (x := 880) kc_38_182 rfl rfl ?_
  refine xi_cmt (pc' := 195) kc_38_184 rfl (xc_le_t (X := v7.toInt) (Y := 880) rfl (by decide) (by omega)) ?_
  refine xi_iconst (pc' := 196) (v := 0) kc_38_195 rfl rfl ?_
  refine xi_istore (pc' := 198) (lv' := [(8, .int 0), (7, .int 880), (5, .int v7), (6, .int 140), (0, .ref 115), (1, .int 0), (2, .int 0), (3, .int 1), (4, .int hr)]) kc_38_196 rfl rfl (xm_lt ml_38 rfl) ?_
  refine xi_aload_n (pc' := 199) (x := 115) kc_38_198 rfl rfl ?_
  refine xi_getfield (pc' := 202) (v := .ref 141) kc_38_199 rfl rfl rfl A0_115 rfl ?_
  refine xi_iload_n (pc' := 203) (x := 0) kc_38_202 rfl rfl ?_
  refine xi_iload (pc' := 205) (x := v7) kc_38_203 rfl rfl ?_
  refine xi_iload (pc' := 207) (x := 0) kc_38_205 rfl rfl ?_
  obtain ⟨v8, ev8⟩ : ∃ q : Int32, v7 - 0 = q := ⟨_, rfl⟩
  have zv8 : v8.toInt = v7.toInt := by rw [← ev8]; exact (xz_sub (X := v7.toInt) (Y := 0) rfl (by decide) (by omega) (by omega)).trans (by omega)
  refine xi_isub (pc' := 208) (v := v8) kc_38_207 rfl ev8 ?_
  refine xi_iastore (pc' := 209) (x' := [v8, y1, y2, y3, y4, y5]) kc_38_208 rfl A0_141 rfl (xi_in (n := 6) (by decide) (by decide)) rfl (fun hh1 eh1 => ?_)
  have G1 := xg_skip G0 eh1 rfl
  have A1_115 := (eh1.2.1 115 (by decide)).trans A0_115
  have A1_121 := (eh1.2.1 121 (by decide)).trans A0_121
  have A1_141 := eh1.1
  have n1 := eh1.2.2.1.trans n0
  have z1 := eh1.2.2.2.trans z0
  clear G0 n0 z0 A0_115 A0_121 A0_141 eh1
  refine xi_iload (pc' := 211) (x := 0) kc_38_209 rfl rfl ?_
  refine xi_ift (pc' := 221) kc_38_211 rfl rfl ?_
  refine xi_return kc_38_221 mr_38 ?_
  exact kk v8 y1 y2 y3 y4 y5 hh1 (by first | omega | decide) (by first | omega | decide) (by first | omega | decide) (by first | omega | decide) (by first | omega | decide) (by first | omega | decide) (by first | omega | decide) (by first | omega | decide) (by first | omega | decide) (by first | omega | decide) (by first | omega | decide) (by first | omega | decide) G1 A1_115 A1_121 A1_141 n1 z1
set_option maxHeartbeats 8000000 in
set_option maxRecDepth 20000 in
theorem hb_room1 {J : xe_J} {ov : List (List Int32)} {d N Z : Nat} (hJ : ∀ d mj as h, mj ≠ xe_loff → J d mj as h = none) {Q : Option Value → xe_H → Prop} {hr w0 w1 w2 w3 w4 w5 y0 y1 y2 y3 y4 y5 : Int32} {h : xe_H} (h_0 : 0 ≤ y0.toInt) (h_1 : 0 ≤ y1.toInt) (h_2 : 0 ≤ y2.toInt) (h_3 : 0 ≤ y3.toInt) (h_4 : 0 ≤ y4.toInt) (h_5 : 0 ≤ y5.toInt) (h_6 : y0.toInt ≤ 880) (h_7 : y1.toInt ≤ 880) (h_8 : y2.toInt ≤ 880) (h_9 : y3.toInt ≤ 880) (h_10 : y4.toInt ≤ 880) (h_11 : y5.toInt ≤ 880) (h_12 : 0 ≤ hr.toInt) (h_13 : hr.toInt ≤ 599) (G0 : xg [0, 64, 115, 121, 141] h) (A0_115 : h[115]? = some (.inr (12, [.int 0, .int hr, .ref 116, .ref 117, .ref 118, .ref 119, .ref 120, .ref 121, .ref 122, .ref 123, .ref 124, .ref 125, .ref 126, .ref 127, .ref 128, .ref 129, .int 4, .ref 130, .int 0, .ref 131, .ref 132, .ref 133, .ref 134, .int 0, .ref 135, .ref 136, .ref 137, .ref 138, .ref 139, .ref 140, .ref 141, .ref 142, .int 5, .int 0, .int 0, .ref 143, .ref 144, .ref 145, .ref 146, .ref 147, .ref 148, .int 0, .ref 149, .ref 150, .ref 151, .int 0, .ref 152, .ref 153, .ref 154, .ref 155, .ref 156, .ref 157, .ref 158, .ref 159, .int 0, .ref 160, .int 0, .ref 161, .ref 162, .ref 163, .ref 164, .int 0, .ref 165, .ref 166]))) (A0_121 : h[121]? = some (.inl (0, .inl ([w0, w1, w2, w3, w4, w5])))) (A0_141 : h[141]? = some (.inl (0, .inl ([y0, y1, y2, y3, y4, y5])))) (n0 : h.length = N) (z0 : xe_sz h = Z) (kk : ∀ (y0_ y1_ y2_ y3_ y4_ y5_ : Int32) (h1 : xe_H), 0 ≤ y0_.toInt → 0 ≤ y1_.toInt → 0 ≤ y2_.toInt → 0 ≤ y3_.toInt → 0 ≤ y4_.toInt → 0 ≤ y5_.toInt → y0_.toInt ≤ 880 → y1_.toInt ≤ 880 → y2_.toInt ≤ 880 → y3_.toInt ≤ 880 → y4_.toInt ≤ 880 → y5_.toInt ≤ 880 → xg [0, 64, 115, 121, 141] h1 → h1[115]? = some (.inr (12, [.int 0, .int hr, .ref 116, .ref 117, .ref 118, .ref 119, .ref 120, .ref 121, .ref 122, .ref 123, .ref 124, .ref 125, .ref 126, .ref 127, .ref 128, .ref 129, .int 4, .ref 130, .int 0, .ref 131, .ref 132, .ref 133, .ref 134, .int 0, .ref 135, .ref 136, .ref 137, .ref 138, .ref 139, .ref 140, .ref 141, .ref 142, .int 5, .int 0, .int 0, .ref 143, .ref 144, .ref 145, .ref 146, .ref 147, .ref 148, .int 0, .ref 149, .ref 150, .ref 151, .int 0, .ref 152, .ref 153, .ref 154, .ref 155, .ref 156, .ref 157, .ref 158, .ref 159, .int 0, .ref 160, .int 0, .ref 161, .ref 162, .ref 163, .ref 164, .int 0, .ref 165, .ref 166])) → h1[121]? = some (.inl (0, .inl ([w0, w1, w2, w3, w4, w5]))) → h1[141]? = some (.inl (0, .inl ([y0_, y1_, y2_, y3_, y4_, y5_]))) → h1.length = N → xe_sz h1 = Z → Q (none) h1) : xw J ov (d + 4) 38 (0, [(0, .ref 115), (1, .int 1), (2, .int 0), (3, .int 1), (4, .int hr)], [], h) Q := by
  refine xi_aload_n (pc' := 1) (x := 115) kc_38_0 rfl rfl ?_
  refine xi_getfield (pc' := 4) (v := .ref 141) kc_38_1 rfl rfl rfl A0_115 rfl ?_
  refine xi_iload_n (pc' := 5) (x := 1) kc_38_4 rfl rfl ?_
  refine xi_iaload (pc' := 6) (v := y1) kc_38_5 rfl A0_141 (by decide) rfl (xi_in (n := 6) (by decide) (by decide)) rfl ?_
  refine xi_aload_n (pc' := 7) (x := 115) kc_38_6 rfl rfl ?_
  refine xi_getfield (pc' := 10) (v := .ref 122) kc_38_7 rfl rfl rfl A0_115 rfl ?_
  refine xi_bipush (pc' := 12) (v := 24) kc_38_10 rfl rfl ?_
  refine xi_iload_n (pc' := 13) (x := 1) kc_38_12 rfl rfl ?_
  refine xi_imul (pc' := 14) (v := 24) kc_38_13 rfl rfl ?_
  refine xi_iload (pc' := 16) (x := hr) kc_38_14 rfl rfl ?_
  refine xi_bipush (pc' := 18) (v := 24) kc_38_16 rfl rfl ?_
  obtain ⟨v1, ev1⟩ : ∃ q : Int32, hr - hr / 24 * 24 = q := ⟨_, rfl⟩
  have dv1 : 0 ≤ v1.toInt ∧ v1.toInt < 24 := by rw [← ev1]; exact xz_rem (X := hr.toInt) (Y := 24) rfl (by decide) (by omega) (by decide)
  refine xi_irem (pc' := 19) (v := v1) kc_38_18 rfl ev1 (by decide) ?_
  obtain ⟨v2, ev2⟩ : ∃ q : Int32, 24 + v1 = q := ⟨_, rfl⟩
  have zv2 : v2.toInt = (v1.toInt + 24) := by rw [← ev2]; exact (xz_add (X := 24) (Y := v1.toInt) (by decide) rfl (by omega) (by omega)).trans (by omega)
  refine xi_iadd (pc' := 20) (v := v2) kc_38_19 rfl ev2 ?_
  refine xi_iaload (pc' := 21) (v := 0) kc_38_20 rfl (G0 122 _ rfl hl_122) (by decide) rfl (xi_in (by rw [zv2]; omega) (by rw [zv2]; simp only [List.length_replicate]; omega)) (xa_rep (by rw [zv2]; omega) (by rw [zv2]; omega)) ?_
  obtain ⟨v3, ev3⟩ : ∃ q : Int32, y1 + 0 = q := ⟨_, rfl⟩
  have zv3 : v3.toInt = y1.toInt := by rw [← ev3]; exact (xz_add (X := y1.toInt) (Y := 0) rfl (by decide) (by omega) (by omega)).trans (by omega)
  refine xi_iadd (pc' := 22) (v := v3) kc_38_21 rfl ev3 ?_
  refine xi_istore (pc' := 24) (lv' := [(5, .int v3), (0, .ref 115), (1, .int 1), (2, .int 0), (3, .int 1), (4, .int hr)]) kc_38_22 rfl rfl (xm_lt ml_38 rfl) ?_
  refine xi_iconst (pc' := 25) (v := 0) kc_38_24 rfl rfl ?_
  refine xi_istore (pc' := 27) (lv' := [(6, .int 0), (5, .int v3), (0, .ref 115), (1, .int 1), (2, .int 0), (3, .int 1), (4, .int hr)]) kc_38_25 rfl rfl (xm_lt ml_38 rfl) ?_
  refine xi_iload (pc' := 29) (x := 0) kc_38_27 rfl rfl ?_
  refine xi_aload_n (pc' := 30) (x := 115) kc_38_29 rfl rfl ?_
  refine xi_getfield (pc' := 33) (v := .int 0) kc_38_30 rfl rfl rfl A0_115 rfl ?_
  refine xi_cmt (pc' := 93) kc_38_33 rfl rfl ?_
  refine xi_iload (pc' := 95) (x := v3) kc_38_93 rfl rfl ?_
  refine xi_static (mj := 40) (as := [.int v3]) (st1 := []) (lv0 := [(0, .int v3)]) kc_38_95 rfl rfl (Nat.le_of_ble_eq_true rfl) rfl rfl (Nat.le_of_ble_eq_true rfl) (hJ _ _ _ _ (by decide)) (xm_le ml_40 rfl) rfl ?_
  refine xi_iload_n (pc' := 1) (x := v3) kc_40_0 rfl rfl ?_
  refine xi_ift (pc' := 8) kc_40_1 rfl (xc_ge_t (X := y1.toInt) (Y := 0) zv3 (by decide) (by omega)) ?_
  refine xi_iload_n (pc' := 9) (x := v3) kc_40_8 rfl rfl ?_
  refine xi_ldc (pc' := 11) (v := 99999) kc_40_9 rfl rfl ?_
  refine xi_cmt (pc' := 19) kc_40_11 rfl (xc_le_t (X := y1.toInt) (Y := 99999) zv3 (by decide) (by omega)) ?_
  refine xi_iload_n (pc' := 20) (x := v3) kc_40_19 rfl rfl ?_
  refine xi_ireturn kc_40_20 mr_40 rfl ?_
  show xw J ov (d + 4) 38 (98, [(6, .int 0), (5, .int v3), (0, .ref 115), (1, .int 1), (2, .int 0), (3, .int 1), (4, .int hr)], [.int v3], h) _
  refine xi_istore (pc' := 100) (lv' := [(5, .int v3), (6, .int 0), (0, .ref 115), (1, .int 1), (2, .int 0), (3, .int 1), (4, .int hr)]) kc_38_98 rfl rfl (xm_lt ml_38 rfl) ?_
  refine xi_aload_n (pc' := 101) (x := 115) kc_38_100 rfl rfl ?_
  refine xi_getfield (pc' := 104) (v := .ref 116) kc_38_101 rfl rfl rfl A0_115 rfl ?_
  refine xi_iload_n (pc' := 105) (x := 1) kc_38_104 rfl rfl ?_
  refine xi_iaload (pc' := 106) (v := 40) kc_38_105 rfl (G0 116 _ rfl hl_116) (by decide) rfl (xi_in (n := 6) (by decide) (by decide)) rfl ?_
  refine xi_aload_n (pc' := 107) (x := 115) kc_38_106 rfl rfl ?_
  refine xi_getfield (pc' := 110) (v := .int 5) kc_38_107 rfl rfl rfl A0_115 rfl ?_
  refine xi_static (mj := 23) (as := [.int 5]) (st1 := [.int 40]) (lv0 := [(0, .int 5)]) kc_38_110 rfl rfl (Nat.le_of_ble_eq_true rfl) rfl rfl (Nat.le_of_ble_eq_true rfl) (hJ _ _ _ _ (by decide)) (xm_le ml_23 rfl) rfl ?_
  refine xi_iload_n (pc' := 1) (x := 5) kc_23_0 rfl rfl ?_
  refine xi_iff (pc' := 4) kc_23_1 rfl rfl ?_
  refine xi_iconst (pc' := 5) (v := 5) kc_23_4 rfl rfl ?_
  refine xi_iload_n (pc' := 6) (x := 5) kc_23_5 rfl rfl ?_
  refine xi_iconst (pc' := 7) (v := 2) kc_23_6 rfl rfl ?_
  refine xi_idiv (pc' := 8) (v := 2) kc_23_7 rfl rfl (by decide) ?_
  refine xi_iadd (pc' := 9) (v := 7) kc_23_8 rfl rfl ?_
  refine xi_iload_n (pc' := 10) (x := 5) kc_23_9 rfl rfl ?_
  refine xi_iload_n (pc' := 11) (x := 5) kc_23_10 rfl rfl ?_
  refine xi_imul (pc' := 12) (v := 25) kc_23_11 rfl rfl ?_
  refine xi_bipush (pc' := 14) (v := 40) kc_23_12 rfl rfl ?_
  refine xi_idiv (pc' := 15) (v := 0) kc_23_14 rfl rfl (by decide) ?_
  refine xi_iadd (pc' := 16) (v := 7) kc_23_15 rfl rfl ?_
  refine xi_ireturn kc_23_16 mr_23 rfl ?_
  show xw J ov (d + 4) 38 (113, [(5, .int v3), (6, .int 0), (0, .ref 115), (1, .int 1), (2, .int 0), (3, .int 1), (4, .int hr)], [.int 7, .int 40], h) _
  refine xi_imul (pc' := 114) (v := 280) kc_38_113 rfl rfl ?_
  refine xi_iconst (pc' := 115) (v := 2) kc_38_114 rfl rfl ?_
  refine xi_idiv (pc' := 116) (v := 140) kc_38_115 rfl rfl (by decide) ?_
  refine xi_istore (pc' := 118) (lv' := [(6, .int 140), (5, .int v3), (0, .ref 115), (1, .int 1), (2, .int 0), (3, .int 1), (4, .int hr)]) kc_38_116 rfl rfl (xm_lt ml_38 rfl) ?_
  refine xi_iload (pc' := 120) (x := v3) kc_38_118 rfl rfl ?_
  refine xi_iload (pc' := 122) (x := v3) kc_38_120 rfl rfl ?_
  refine xi_iload (pc' := 124) (x := 140) kc_38_122 rfl rfl ?_
  obtain ⟨v4, ev4⟩ : ∃ q : Int32, v3 - 140 = q := ⟨_, rfl⟩
  have zv4 : v4.toInt = (y1.toInt + (-140)) := by rw [← ev4]; exact (xz_sub (X := y1.toInt) (Y := 140) zv3 (by decide) (by omega) (by omega)).trans (by omega)
  refine xi_isub (pc' := 125) (v := v4) kc_38_124 rfl ev4 ?_
  refine xi_aload_n (pc' := 126) (x := 115) kc_38_125 rfl rfl ?_
  refine xi_getfield (pc' := 129) (v := .ref 118) kc_38_126 rfl rfl rfl A0_115 rfl ?_
  refine xi_iload_n (pc' := 130) (x := 1) kc_38_129 rfl rfl ?_
  refine xi_iaload (pc' := 131) (v := 10) kc_38_130 rfl (G0 118 _ rfl hl_118) (by decide) rfl (xi_in (n := 6) (by decide) (by decide)) rfl ?_
  refine xi_aload_n (pc' := 132) (x := 115) kc_38_131 rfl rfl ?_
  refine xi_getfield (pc' := 135) (v := .ref 120) kc_38_132 rfl rfl rfl A0_115 rfl ?_
  refine xi_iload_n (pc' := 136) (x := 1) kc_38_135 rfl rfl ?_
  refine xi_iaload (pc' := 137) (v := 0) kc_38_136 rfl (G0 120 _ rfl hl_120) (by decide) rfl (xi_in (n := 6) (by decide) (by decide)) rfl ?_
  refine xi_iconst (pc' := 138) (v := 1) kc_38_137 rfl rfl ?_
  refine xi_cmt (pc' := 150) kc_38_138 rfl rfl ?_
  refine xi_iconst (pc' := 151) (v := 0) kc_38_150 rfl rfl ?_
  refine xi_iadd (pc' := 152) (v := 10) kc_38_151 rfl rfl ?_
  obtain ⟨v5, ev5⟩ : ∃ q : Int32, v4 * 10 = q := ⟨_, rfl⟩
  have zv5 : v5.toInt = ((10) * y1.toInt + (-1400)) := by rw [← ev5]; exact (xz_mul (X := (y1.toInt + (-140))) (Y := 10) zv4 (by decide) (by omega) (by omega)).trans (by omega)
  refine xi_imul (pc' := 153) (v := v5) kc_38_152 rfl ev5 ?_
  refine xi_bipush (pc' := 155) (v := 100) kc_38_153 rfl rfl ?_
  obtain ⟨v6, ev6⟩ : ∃ q : Int32, v5 / 100 = q := ⟨_, rfl⟩
  have dv6 : 100 * v6.toInt ≤ ((10) * y1.toInt + (-1400)) + 99 ∧ ((10) * y1.toInt + (-1400)) ≤ 100 * v6.toInt + 99 := by rw [← ev6]; exact xz_div (X := ((10) * y1.toInt + (-1400))) (Y := 100) zv5 (by decide) (by decide)
  have bv6 : -15 ≤ v6.toInt ∧ v6.toInt ≤ 75 := by omega
  refine xi_idiv (pc' := 156) (v := v6) kc_38_155 rfl ev6 (by decide) ?_
  obtain ⟨v7, ev7⟩ : ∃ q : Int32, v3 - v6 = q := ⟨_, rfl⟩
  have zv7 : v7.toInt = (y1.toInt + (-1) * v6.toInt) := by rw [← ev7]; exact (xz_sub (X := y1.toInt) (Y := v6.toInt) zv3 rfl (by omega) (by omega)).trans (by omega)
  have bv7 : 0 ≤ v7.toInt ∧ v7.toInt ≤ 880 := by omega
  refine xi_isub (pc' := 157) (v := v7) kc_38_156 rfl ev7 ?_
  refine xi_static (mj := 40) (as := [.int v7]) (st1 := []) (lv0 := [(0, .int v7)]) kc_38_157 rfl rfl (Nat.le_of_ble_eq_true rfl) rfl rfl (Nat.le_of_ble_eq_true rfl) (hJ _ _ _ _ (by decide)) (xm_le ml_40 rfl) rfl ?_
  refine xi_iload_n (pc' := 1) (x := v7) kc_40_0 rfl rfl ?_
  refine xi_ift (pc' := 8) kc_40_1 rfl (xc_ge_t (X := v7.toInt) (Y := 0) rfl (by decide) (by omega)) ?_
  refine xi_iload_n (pc' := 9) (x := v7) kc_40_8 rfl rfl ?_
  refine xi_ldc (pc' := 11) (v := 99999) kc_40_9 rfl rfl ?_
  refine xi_cmt (pc' := 19) kc_40_11 rfl (xc_le_t (X := v7.toInt) (Y := 99999) rfl (by decide) (by omega)) ?_
  refine xi_iload_n (pc' := 20) (x := v7) kc_40_19 rfl rfl ?_
  refine xi_ireturn kc_40_20 mr_40 rfl ?_
  show xw J ov (d + 4) 38 (160, [(6, .int 140), (5, .int v3), (0, .ref 115), (1, .int 1), (2, .int 0), (3, .int 1), (4, .int hr)], [.int v7], h) _
  refine xi_istore (pc' := 162) (lv' := [(5, .int v7), (6, .int 140), (0, .ref 115), (1, .int 1), (2, .int 0), (3, .int 1), (4, .int hr)]) kc_38_160 rfl rfl (xm_lt ml_38 rfl) ?_
  refine xi_aload_n (pc' := 163) (x := 115) kc_38_162 rfl rfl ?_
  refine xi_getfield (pc' := 166) (v := .ref 116) kc_38_163 rfl rfl rfl A0_115 rfl ?_
  refine xi_iload_n (pc' := 167) (x := 1) kc_38_166 rfl rfl ?_
  refine xi_iaload (pc' := 168) (v := 40) kc_38_167 rfl (G0 116 _ rfl hl_116) (by decide) rfl (xi_in (n := 6) (by decide) (by decide)) rfl ?_
  refine xi_aload_n (pc' := 169) (x := 115) kc_38_168 rfl rfl ?_
  refine xi_getfield (pc' := 172) (v := .ref 117) kc_38_169 rfl rfl rfl A0_115 rfl ?_
  refine xi_iload_n (pc' := 173) (x := 1) kc_38_172 rfl rfl ?_
  refine xi_iaload (pc' := 174) (v := 18) kc_38_173 rfl (G0 117 _ rfl hl_117) (by decide) rfl (xi_in (n := 6) (by decide) (by decide)) rfl ?_
  refine xi_static (mj := 23) (as := [.int 18]) (st1 := [.int 40]) (lv0 := [(0, .int 18)]) kc_38_174 rfl rfl (Nat.le_of_ble_eq_true rfl) rfl rfl (Nat.le_of_ble_eq_true rfl) (hJ _ _ _ _ (by decide)) (xm_le ml_23 rfl) rfl ?_
  refine xi_iload_n (pc' := 1) (x := 18) kc_23_0 rfl rfl ?_
  refine xi_iff (pc' := 4) kc_23_1 rfl rfl ?_
  refine xi_iconst (pc' := 5) (v := 5) kc_23_4 rfl rfl ?_
  refine xi_iload_n (pc' := 6) (x := 18) kc_23_5 rfl rfl ?_
  refine xi_iconst (pc' := 7) (v := 2) kc_23_6 rfl rfl ?_
  refine xi_idiv (pc' := 8) (v := 9) kc_23_7 rfl rfl (by decide) ?_
  refine xi_iadd (pc' := 9) (v := 14) kc_23_8 rfl rfl ?_
  refine xi_iload_n (pc' := 10) (x := 18) kc_23_9 rfl rfl ?_
  refine xi_iload_n (pc' := 11) (x := 18) kc_23_10 rfl rfl ?_
  refine xi_imul (pc' := 12) (v := 324) kc_23_11 rfl rfl ?_
  refine xi_bipush (pc' := 14) (v := 40) kc_23_12 rfl rfl ?_
  refine xi_idiv (pc' := 15) (v := 8) kc_23_14 rfl rfl (by decide) ?_
  refine xi_iadd (pc' := 16) (v := 22) kc_23_15 rfl rfl ?_
  refine xi_ireturn kc_23_16 mr_23 rfl ?_
  show xw J ov (d + 4) 38 (177, [(5, .int v7), (6, .int 140), (0, .ref 115), (1, .int 1), (2, .int 0), (3, .int 1), (4, .int hr)], [.int 22, .int 40], h) _
  refine xi_imul (pc' := 178) (v := 880) kc_38_177 rfl rfl ?_
  refine xi_istore (pc' := 180) (lv' := [(7, .int 880), (5, .int v7), (6, .int 140), (0, .ref 115), (1, .int 1), (2, .int 0), (3, .int 1), (4, .int hr)]) kc_38_178 rfl rfl (xm_lt ml_38 rfl) ?_
  refine xi_iload (pc' := 182) (x := v7) kc_38_180 rfl rfl ?_
  refine xi_iload (pc' := 184) (x := 880) kc_38_182 rfl rfl ?_
  refine xi_cmt (pc' := 195) kc_38_184 rfl (xc_le_t (X := v7.toInt) (Y := 880) rfl (by decide) (by omega)) ?_
  refine xi_iconst (pc' := 196) (v := 0) kc_38_195 rfl rfl ?_
  refine xi_istore (pc' := 198) (lv' := [(8, .int 0), (7, .int 880), (5, .int v7), (6, .int 140), (0, .ref 115), (1, .int 1), (2, .int 0), (3, .int 1), (4, .int hr)]) kc_38_196 rfl rfl (xm_lt ml_38 rfl) ?_
  refine xi_aload_n (pc' := 199) (x := 115) kc_38_198 rfl rfl ?_
  refine xi_getfield (pc' := 202) (v := .ref 141) kc_38_199 rfl rfl rfl A0_115 rfl ?_
  refine xi_iload_n (pc' := 203) (x := 1) kc_38_202 rfl rfl ?_
  refine xi_iload (pc' := 205) (x := v7) kc_38_203 rfl rfl ?_
  refine xi_iload (pc' := 207) (x := 0) kc_38_205 rfl rfl ?_
  obtain ⟨v8, ev8⟩ : ∃ q : Int32, v7 - 0 = q := ⟨_, rfl⟩
  have zv8 : v8.toInt = v7.toInt := by rw [← ev8]; exact (xz_sub (X := v7.toInt) (Y := 0) rfl (by decide) (by omega) (by omega)).trans (by omega)
  refine xi_isub (pc' := 208) (v := v8) kc_38_207 rfl ev8 ?_
  refine xi_iastore (pc' := 209) (x' := [y0, v8, y2, y3, y4, y5]) kc_38_208 rfl A0_141 rfl (xi_in (n := 6) (by decide) (by decide)) rfl (fun hh1 eh1 => ?_)
  have G1 := xg_skip G0 eh1 rfl
  have A1_115 := (eh1.2.1 115 (by decide)).trans A0_115
  have A1_121 := (eh1.2.1 121 (by decide)).trans A0_121
  have A1_141 := eh1.1
  have n1 := eh1.2.2.1.trans n0
  have z1 := eh1.2.2.2.trans z0
  clear G0 n0 z0 A0_115 A0_121 A0_141 eh1
  refine xi_iload (pc' := 211) (x := 0) kc_38_209 rfl rfl ?_
  refine xi_ift (pc' := 221) kc_38_211 rfl rfl ?_
  refine xi_return kc_38_221 mr_38 ?_
  exact kk y0 v8 y2 y3 y4 y5 hh1 (by first | omega | decide) (by first | omega | decide) (by first | omega | decide) (by first | omega | decide) (by first | omega | decide) (by first | omega | decide) (by first | omega | decide) (by first | omega | decide) (by first | omega | decide) (by first | omega | decide) (by first | omega | decide) (by first | omega | decide) G1 A1_115 A1_121 A1_141 n1 z1
set_option maxHeartbeats 8000000 in
set_option maxRecDepth 20000 in
theorem hb_room2 {J : xe_J} {ov : List (List Int32)} {d N Z : Nat} (hJ : ∀ d mj as h, mj ≠ xe_loff → J d mj as h = none) {Q : Option Value → xe_H → Prop} {hr w0 w1 w2 w3 w4 w5 y0 y1 y2 y3 y4 y5 : Int32} {h : xe_H} (h_0 : 0 ≤ y0.toInt) (h_1 : 0 ≤ y1.toInt) (h_2 : 0 ≤ y2.toInt) (h_3 : 0 ≤ y3.toInt) (h_4 : 0 ≤ y4.toInt) (h_5 : 0 ≤ y5.toInt) (h_6 : y0.toInt ≤ 880) (h_7 : y1.toInt ≤ 880) (h_8 : y2.toInt ≤ 880) (h_9 : y3.toInt ≤ 880) (h_10 : y4.toInt ≤ 880) (h_11 : y5.toInt ≤ 880) (h_12 : 0 ≤ hr.toInt) (h_13 : hr.toInt ≤ 599) (G0 : xg [0, 64, 115, 121, 141] h) (A0_115 : h[115]? = some (.inr (12, [.int 0, .int hr, .ref 116, .ref 117, .ref 118, .ref 119, .ref 120, .ref 121, .ref 122, .ref 123, .ref 124, .ref 125, .ref 126, .ref 127, .ref 128, .ref 129, .int 4, .ref 130, .int 0, .ref 131, .ref 132, .ref 133, .ref 134, .int 0, .ref 135, .ref 136, .ref 137, .ref 138, .ref 139, .ref 140, .ref 141, .ref 142, .int 5, .int 0, .int 0, .ref 143, .ref 144, .ref 145, .ref 146, .ref 147, .ref 148, .int 0, .ref 149, .ref 150, .ref 151, .int 0, .ref 152, .ref 153, .ref 154, .ref 155, .ref 156, .ref 157, .ref 158, .ref 159, .int 0, .ref 160, .int 0, .ref 161, .ref 162, .ref 163, .ref 164, .int 0, .ref 165, .ref 166]))) (A0_121 : h[121]? = some (.inl (0, .inl ([w0, w1, w2, w3, w4, w5])))) (A0_141 : h[141]? = some (.inl (0, .inl ([y0, y1, y2, y3, y4, y5])))) (n0 : h.length = N) (z0 : xe_sz h = Z) (kk : ∀ (y0_ y1_ y2_ y3_ y4_ y5_ : Int32) (h1 : xe_H), 0 ≤ y0_.toInt → 0 ≤ y1_.toInt → 0 ≤ y2_.toInt → 0 ≤ y3_.toInt → 0 ≤ y4_.toInt → 0 ≤ y5_.toInt → y0_.toInt ≤ 880 → y1_.toInt ≤ 880 → y2_.toInt ≤ 880 → y3_.toInt ≤ 880 → y4_.toInt ≤ 880 → y5_.toInt ≤ 880 → xg [0, 64, 115, 121, 141] h1 → h1[115]? = some (.inr (12, [.int 0, .int hr, .ref 116, .ref 117, .ref 118, .ref 119, .ref 120, .ref 121, .ref 122, .ref 123, .ref 124, .ref 125, .ref 126, .ref 127, .ref 128, .ref 129, .int 4, .ref 130, .int 0, .ref 131, .ref 132, .ref 133, .ref 134, .int 0, .ref 135, .ref 136, .ref 137, .ref 138, .ref 139, .ref 140, .ref 141, .ref 142, .int 5, .int 0, .int 0, .ref 143, .ref 144, .ref 145, .ref 146, .ref 147, .ref 148, .int 0, .ref 149, .ref 150, .ref 151, .int 0, .ref 152, .ref 153, .ref 154, .ref 155, .ref 156, .ref 157, .ref 158, .ref 159, .int 0, .ref 160, .int 0, .ref 161, .ref 162, .ref 163, .ref 164, .int 0, .ref 165, .ref 166])) → h1[121]? = some (.inl (0, .inl ([w0, w1, w2, w3, w4, w5]))) → h1[141]? = some (.inl (0, .inl ([y0_, y1_, y2_, y3_, y4_, y5_]))) → h1.length = N → xe_sz h1 = Z → Q (none) h1) : xw J ov (d + 4) 38 (0, [(0, .ref 115), (1, .int 2), (2, .int 0), (3, .int 1), (4, .int hr)], [], h) Q := by
  refine xi_aload_n (pc' := 1) (x := 115) kc_38_0 rfl rfl ?_
  refine xi_getfield (pc' := 4) (v := .ref 141) kc_38_1 rfl rfl rfl A0_115 rfl ?_
  refine xi_iload_n (pc' := 5) (x := 2) kc_38_4 rfl rfl ?_
  refine xi_iaload (pc' := 6) (v := y2) kc_38_5 rfl A0_141 (by decide) rfl (xi_in (n := 6) (by decide) (by decide)) rfl ?_
  refine xi_aload_n (pc' := 7) (x := 115) kc_38_6 rfl rfl ?_
  refine xi_getfield (pc' := 10) (v := .ref 122) kc_38_7 rfl rfl rfl A0_115 rfl ?_
  refine xi_bipush (pc' := 12) (v := 24) kc_38_10 rfl rfl ?_
  refine xi_iload_n (pc' := 13) (x := 2) kc_38_12 rfl rfl ?_
  refine xi_imul (pc' := 14) (v := 48) kc_38_13 rfl rfl ?_
  refine xi_iload (pc' := 16) (x := hr) kc_38_14 rfl rfl ?_
  refine xi_bipush (pc' := 18) (v := 24) kc_38_16 rfl rfl ?_
  obtain ⟨v1, ev1⟩ : ∃ q : Int32, hr - hr / 24 * 24 = q := ⟨_, rfl⟩
  have dv1 : 0 ≤ v1.toInt ∧ v1.toInt < 24 := by rw [← ev1]; exact xz_rem (X := hr.toInt) (Y := 24) rfl (by decide) (by omega) (by decide)
  refine xi_irem (pc' := 19) (v := v1) kc_38_18 rfl ev1 (by decide) ?_
  obtain ⟨v2, ev2⟩ : ∃ q : Int32, 48 + v1 = q := ⟨_, rfl⟩
  have zv2 : v2.toInt = (v1.toInt + 48) := by rw [← ev2]; exact (xz_add (X := 48) (Y := v1.toInt) (by decide) rfl (by omega) (by omega)).trans (by omega)
  refine xi_iadd (pc' := 20) (v := v2) kc_38_19 rfl ev2 ?_
  refine xi_iaload (pc' := 21) (v := 0) kc_38_20 rfl (G0 122 _ rfl hl_122) (by decide) rfl (xi_in (by rw [zv2]; omega) (by rw [zv2]; simp only [List.length_replicate]; omega)) (xa_rep (by rw [zv2]; omega) (by rw [zv2]; omega)) ?_
  obtain ⟨v3, ev3⟩ : ∃ q : Int32, y2 + 0 = q := ⟨_, rfl⟩
  have zv3 : v3.toInt = y2.toInt := by rw [← ev3]; exact (xz_add (X := y2.toInt) (Y := 0) rfl (by decide) (by omega) (by omega)).trans (by omega)
  refine xi_iadd (pc' := 22) (v := v3) kc_38_21 rfl ev3 ?_
  refine xi_istore (pc' := 24) (lv' := [(5, .int v3), (0, .ref 115), (1, .int 2), (2, .int 0), (3, .int 1), (4, .int hr)]) kc_38_22 rfl rfl (xm_lt ml_38 rfl) ?_
  refine xi_iconst (pc' := 25) (v := 0) kc_38_24 rfl rfl ?_
  refine xi_istore (pc' := 27) (lv' := [(6, .int 0), (5, .int v3), (0, .ref 115), (1, .int 2), (2, .int 0), (3, .int 1), (4, .int hr)]) kc_38_25 rfl rfl (xm_lt ml_38 rfl) ?_
  refine xi_iload (pc' := 29) (x := 0) kc_38_27 rfl rfl ?_
  refine xi_aload_n (pc' := 30) (x := 115) kc_38_29 rfl rfl ?_
  refine xi_getfield (pc' := 33) (v := .int 0) kc_38_30 rfl rfl rfl A0_115 rfl ?_
  refine xi_cmt (pc' := 93) kc_38_33 rfl rfl ?_
  refine xi_iload (pc' := 95) (x := v3) kc_38_93 rfl rfl ?_
  refine xi_static (mj := 40) (as := [.int v3]) (st1 := []) (lv0 := [(0, .int v3)]) kc_38_95 rfl rfl (Nat.le_of_ble_eq_true rfl) rfl rfl (Nat.le_of_ble_eq_true rfl) (hJ _ _ _ _ (by decide)) (xm_le ml_40 rfl) rfl ?_
  refine xi_iload_n (pc' := 1) (x := v3) kc_40_0 rfl rfl ?_
  refine xi_ift (pc' := 8) kc_40_1 rfl (xc_ge_t (X := y2.toInt) (Y := 0) zv3 (by decide) (by omega)) ?_
  refine xi_iload_n (pc' := 9) (x := v3) kc_40_8 rfl rfl ?_
  refine xi_ldc (pc' := 11) (v := 99999) kc_40_9 rfl rfl ?_
  refine xi_cmt (pc' := 19) kc_40_11 rfl (xc_le_t (X := y2.toInt) (Y := 99999) zv3 (by decide) (by omega)) ?_
  refine xi_iload_n (pc' := 20) (x := v3) kc_40_19 rfl rfl ?_
  refine xi_ireturn kc_40_20 mr_40 rfl ?_
  show xw J ov (d + 4) 38 (98, [(6, .int 0), (5, .int v3), (0, .ref 115), (1, .int 2), (2, .int 0), (3, .int 1), (4, .int hr)], [.int v3], h) _
  refine xi_istore (pc' := 100) (lv' := [(5, .int v3), (6, .int 0), (0, .ref 115), (1, .int 2), (2, .int 0), (3, .int 1), (4, .int hr)]) kc_38_98 rfl rfl (xm_lt ml_38 rfl) ?_
  refine xi_aload_n (pc' := 101) (x := 115) kc_38_100 rfl rfl ?_
  refine xi_getfield (pc' := 104) (v := .ref 116) kc_38_101 rfl rfl rfl A0_115 rfl ?_
  refine xi_iload_n (pc' := 105) (x := 2) kc_38_104 rfl rfl ?_
  refine xi_iaload (pc' := 106) (v := 40) kc_38_105 rfl (G0 116 _ rfl hl_116) (by decide) rfl (xi_in (n := 6) (by decide) (by decide)) rfl ?_
  refine xi_aload_n (pc' := 107) (x := 115) kc_38_106 rfl rfl ?_
  refine xi_getfield (pc' := 110) (v := .int 5) kc_38_107 rfl rfl rfl A0_115 rfl ?_
  refine xi_static (mj := 23) (as := [.int 5]) (st1 := [.int 40]) (lv0 := [(0, .int 5)]) kc_38_110 rfl rfl (Nat.le_of_ble_eq_true rfl) rfl rfl (Nat.le_of_ble_eq_true rfl) (hJ _ _ _ _ (by decide)) (xm_le ml_23 rfl) rfl ?_
  refine xi_iload_n (pc' := 1) (x := 5) kc_23_0 rfl rfl ?_
  refine xi_iff (pc' := 4) kc_23_1 rfl rfl ?_
  refine xi_iconst (pc' := 5) (v := 5) kc_23_4 rfl rfl ?_
  refine xi_iload_n (pc' := 6) (x := 5) kc_23_5 rfl rfl ?_
  refine xi_iconst (pc' := 7) (v := 2) kc_23_6 rfl rfl ?_
  refine xi_idiv (pc' := 8) (v := 2) kc_23_7 rfl rfl (by decide) ?_
  refine xi_iadd (pc' := 9) (v := 7) kc_23_8 rfl rfl ?_
  refine xi_iload_n (pc' := 10) (x := 5) kc_23_9 rfl rfl ?_
  refine xi_iload_n (pc' := 11) (x := 5) kc_23_10 rfl rfl ?_
  refine xi_imul (pc' := 12) (v := 25) kc_23_11 rfl rfl ?_
  refine xi_bipush (pc' := 14) (v := 40) kc_23_12 rfl rfl ?_
  refine xi_idiv (pc' := 15) (v := 0) kc_23_14 rfl rfl (by decide) ?_
  refine xi_iadd (pc' := 16) (v := 7) kc_23_15 rfl rfl ?_
  refine xi_ireturn kc_23_16 mr_23 rfl ?_
  show xw J ov (d + 4) 38 (113, [(5, .int v3), (6, .int 0), (0, .ref 115), (1, .int 2), (2, .int 0), (3, .int 1), (4, .int hr)], [.int 7, .int 40], h) _
  refine xi_imul (pc' := 114) (v := 280) kc_38_113 rfl rfl ?_
  refine xi_iconst (pc' := 115) (v := 2) kc_38_114 rfl rfl ?_
  refine xi_idiv (pc' := 116) (v := 140) kc_38_115 rfl rfl (by decide) ?_
  refine xi_istore (pc' := 118) (lv' := [(6, .int 140), (5, .int v3), (0, .ref 115), (1, .int 2), (2, .int 0), (3, .int 1), (4, .int hr)]) kc_38_116 rfl rfl (xm_lt ml_38 rfl) ?_
  refine xi_iload (pc' := 120) (x := v3) kc_38_118 rfl rfl ?_
  refine xi_iload (pc' := 122) (x := v3) kc_38_120 rfl rfl ?_
  refine xi_iload (pc' := 124) (x := 140) kc_38_122 rfl rfl ?_
  obtain ⟨v4, ev4⟩ : ∃ q : Int32, v3 - 140 = q := ⟨_, rfl⟩
  have zv4 : v4.toInt = (y2.toInt + (-140)) := by rw [← ev4]; exact (xz_sub (X := y2.toInt) (Y := 140) zv3 (by decide) (by omega) (by omega)).trans (by omega)
  refine xi_isub (pc' := 125) (v := v4) kc_38_124 rfl ev4 ?_
  refine xi_aload_n (pc' := 126) (x := 115) kc_38_125 rfl rfl ?_
  refine xi_getfield (pc' := 129) (v := .ref 118) kc_38_126 rfl rfl rfl A0_115 rfl ?_
  refine xi_iload_n (pc' := 130) (x := 2) kc_38_129 rfl rfl ?_
  refine xi_iaload (pc' := 131) (v := 10) kc_38_130 rfl (G0 118 _ rfl hl_118) (by decide) rfl (xi_in (n := 6) (by decide) (by decide)) rfl ?_
  refine xi_aload_n (pc' := 132) (x := 115) kc_38_131 rfl rfl ?_
  refine xi_getfield (pc' := 135) (v := .ref 120) kc_38_132 rfl rfl rfl A0_115 rfl ?_
  refine xi_iload_n (pc' := 136) (x := 2) kc_38_135 rfl rfl ?_
  refine xi_iaload (pc' := 137) (v := 0) kc_38_136 rfl (G0 120 _ rfl hl_120) (by decide) rfl (xi_in (n := 6) (by decide) (by decide)) rfl ?_
  refine xi_iconst (pc' := 138) (v := 1) kc_38_137 rfl rfl ?_
  refine xi_cmt (pc' := 150) kc_38_138 rfl rfl ?_
  refine xi_iconst (pc' := 151) (v := 0) kc_38_150 rfl rfl ?_
  refine xi_iadd (pc' := 152) (v := 10) kc_38_151 rfl rfl ?_
  obtain ⟨v5, ev5⟩ : ∃ q : Int32, v4 * 10 = q := ⟨_, rfl⟩
  have zv5 : v5.toInt = ((10) * y2.toInt + (-1400)) := by rw [← ev5]; exact (xz_mul (X := (y2.toInt + (-140))) (Y := 10) zv4 (by decide) (by omega) (by omega)).trans (by omega)
  refine xi_imul (pc' := 153) (v := v5) kc_38_152 rfl ev5 ?_
  refine xi_bipush (pc' := 155) (v := 100) kc_38_153 rfl rfl ?_
  obtain ⟨v6, ev6⟩ : ∃ q : Int32, v5 / 100 = q := ⟨_, rfl⟩
  have dv6 : 100 * v6.toInt ≤ ((10) * y2.toInt + (-1400)) + 99 ∧ ((10) * y2.toInt + (-1400)) ≤ 100 * v6.toInt + 99 := by rw [← ev6]; exact xz_div (X := ((10) * y2.toInt + (-1400))) (Y := 100) zv5 (by decide) (by decide)
  have bv6 : -15 ≤ v6.toInt ∧ v6.toInt ≤ 75 := by omega
  refine xi_idiv (pc' := 156) (v := v6) kc_38_155 rfl ev6 (by decide) ?_
  obtain ⟨v7, ev7⟩ : ∃ q : Int32, v3 - v6 = q := ⟨_, rfl⟩
  have zv7 : v7.toInt = (y2.toInt + (-1) * v6.toInt) := by rw [← ev7]; exact (xz_sub (X := y2.toInt) (Y := v6.toInt) zv3 rfl (by omega) (by omega)).trans (by omega)
  have bv7 : 0 ≤ v7.toInt ∧ v7.toInt ≤ 880 := by omega
  refine xi_isub (pc' := 157) (v := v7) kc_38_156 rfl ev7 ?_
  refine xi_static (mj := 40) (as := [.int v7]) (st1 := []) (lv0 := [(0, .int v7)]) kc_38_157 rfl rfl (Nat.le_of_ble_eq_true rfl) rfl rfl (Nat.le_of_ble_eq_true rfl) (hJ _ _ _ _ (by decide)) (xm_le ml_40 rfl) rfl ?_
  refine xi_iload_n (pc' := 1) (x := v7) kc_40_0 rfl rfl ?_
  refine xi_ift (pc' := 8) kc_40_1 rfl (xc_ge_t (X := v7.toInt) (Y := 0) rfl (by decide) (by omega)) ?_
  refine xi_iload_n (pc' := 9) (x := v7) kc_40_8 rfl rfl ?_
  refine xi_ldc (pc' := 11) (v := 99999) kc_40_9 rfl rfl ?_
  refine xi_cmt (pc' := 19) kc_40_11 rfl (xc_le_t (X := v7.toInt) (Y := 99999) rfl (by decide) (by omega)) ?_
  refine xi_iload_n (pc' := 20) (x := v7) kc_40_19 rfl rfl ?_
  refine xi_ireturn kc_40_20 mr_40 rfl ?_
  show xw J ov (d + 4) 38 (160, [(6, .int 140), (5, .int v3), (0, .ref 115), (1, .int 2), (2, .int 0), (3, .int 1), (4, .int hr)], [.int v7], h) _
  refine xi_istore (pc' := 162) (lv' := [(5, .int v7), (6, .int 140), (0, .ref 115), (1, .int 2), (2, .int 0), (3, .int 1), (4, .int hr)]) kc_38_160 rfl rfl (xm_lt ml_38 rfl) ?_
  refine xi_aload_n (pc' := 163) (x := 115) kc_38_162 rfl rfl ?_
  refine xi_getfield (pc' := 166) (v := .ref 116) kc_38_163 rfl rfl rfl A0_115 rfl ?_
  refine xi_iload_n (pc' := 167) (x := 2) kc_38_166 rfl rfl ?_
  refine xi_iaload (pc' := 168) (v := 40) kc_38_167 rfl (G0 116 _ rfl hl_116) (by decide) rfl (xi_in (n := 6) (by decide) (by decide)) rfl ?_
  refine xi_aload_n (pc' := 169) (x := 115) kc_38_168 rfl rfl ?_
  refine xi_getfield (pc' := 172) (v := .ref 117) kc_38_169 rfl rfl rfl A0_115 rfl ?_
  refine xi_iload_n (pc' := 173) (x := 2) kc_38_172 rfl rfl ?_
  refine xi_iaload (pc' := 174) (v := 18) kc_38_173 rfl (G0 117 _ rfl hl_117) (by decide) rfl (xi_in (n := 6) (by decide) (by decide)) rfl ?_
  refine xi_static (mj := 23) (as := [.int 18]) (st1 := [.int 40]) (lv0 := [(0, .int 18)]) kc_38_174 rfl rfl (Nat.le_of_ble_eq_true rfl) rfl rfl (Nat.le_of_ble_eq_true rfl) (hJ _ _ _ _ (by decide)) (xm_le ml_23 rfl) rfl ?_
  refine xi_iload_n (pc' := 1) (x := 18) kc_23_0 rfl rfl ?_
  refine xi_iff (pc' := 4) kc_23_1 rfl rfl ?_
  refine xi_iconst (pc' := 5) (v := 5) kc_23_4 rfl rfl ?_
  refine xi_iload_n (pc' := 6) (x := 18) kc_23_5 rfl rfl ?_
  refine xi_iconst (pc' := 7) (v := 2) kc_23_6 rfl rfl ?_
  refine xi_idiv (pc' := 8) (v := 9) kc_23_7 rfl rfl (by decide) ?_
  refine xi_iadd (pc' := 9) (v := 14) kc_23_8 rfl rfl ?_
  refine xi_iload_n (pc' := 10) (x := 18) kc_23_9 rfl rfl ?_
  refine xi_iload_n (pc' := 11) (x := 18) kc_23_10 rfl rfl ?_
  refine xi_imul (pc' := 12) (v := 324) kc_23_11 rfl rfl ?_
  refine xi_bipush (pc' := 14) (v := 40) kc_23_12 rfl rfl ?_
  refine xi_idiv (pc' := 15) (v := 8) kc_23_14 rfl rfl (by decide) ?_
  refine xi_iadd (pc' := 16) (v := 22) kc_23_15 rfl rfl ?_
  refine xi_ireturn kc_23_16 mr_23 rfl ?_
  show xw J ov (d + 4) 38 (177, [(5, .int v7), (6, .int 140), (0, .ref 115), (1, .int 2), (2, .int 0), (3, .int 1), (4, .int hr)], [.int 22, .int 40], h) _
  refine xi_imul (pc' := 178) (v := 880) kc_38_177 rfl rfl ?_
  refine xi_istore (pc' := 180) (lv' := [(7, .int 880), (5, .int v7), (6, .int 140), (0, .ref 115), (1, .int 2), (2, .int 0), (3, .int 1), (4, .int hr)]) kc_38_178 rfl rfl (xm_lt ml_38 rfl) ?_
  refine xi_iload (pc' := 182) (x := v7) kc_38_180 rfl rfl ?_
  refine xi_iload (pc' := 184) (x := 880) kc_38_182 rfl rfl ?_
  refine xi_cmt (pc' := 195) kc_38_184 rfl (xc_le_t (X := v7.toInt) (Y := 880) rfl (by decide) (by omega)) ?_
  refine xi_iconst (pc' := 196) (v := 0) kc_38_195 rfl rfl ?_
  refine xi_istore (pc' := 198) (lv' := [(8, .int 0), (7, .int 880), (5, .int v7), (6, .int 140), (0, .ref 115), (1, .int 2), (2, .int 0), (3, .int 1), (4, .int hr)]) kc_38_196 rfl rfl (xm_lt ml_38 rfl) ?_
  refine xi_aload_n (pc' := 199) (x := 115) kc_38_198 rfl rfl ?_
  refine xi_getfield (pc' := 202) (v := .ref 141) kc_38_199 rfl rfl rfl A0_115 rfl ?_
  refine xi_iload_n (pc' := 203) (x := 2) kc_38_202 rfl rfl ?_
  refine xi_iload (pc' := 205) (x := v7) kc_38_203 rfl rfl ?_
  refine xi_iload (pc' := 207) (x := 0) kc_38_205 rfl rfl ?_
  obtain ⟨v8, ev8⟩ : ∃ q : Int32, v7 - 0 = q := ⟨_, rfl⟩
  have zv8 : v8.toInt = v7.toInt := by rw [← ev8]; exact (xz_sub (X := v7.toInt) (Y := 0) rfl (by decide) (by omega) (by omega)).trans (by omega)
  refine xi_isub (pc' := 208) (v := v8) kc_38_207 rfl ev8 ?_
  refine xi_iastore (pc' := 209) (x' := [y0, y1, v8, y3, y4, y5]) kc_38_208 rfl A0_141 rfl (xi_in (n := 6) (by decide) (by decide)) rfl (fun hh1 eh1 => ?_)
  have G1 := xg_skip G0 eh1 rfl
  have A1_115 := (eh1.2.1 115 (by decide)).trans A0_115
  have A1_121 := (eh1.2.1 121 (by decide)).trans A0_121
  have A1_141 := eh1.1
  have n1 := eh1.2.2.1.trans n0
  have z1 := eh1.2.2.2.trans z0
  clear G0 n0 z0 A0_115 A0_121 A0_141 eh1
  refine xi_iload (pc' := 211) (x := 0) kc_38_209 rfl rfl ?_
  refine xi_ift (pc' := 221) kc_38_211 rfl rfl ?_
  refine xi_return kc_38_221 mr_38 ?_
  exact kk y0 y1 v8 y3 y4 y5 hh1 (by first | omega | decide) (by first | omega | decide) (by first | omega | decide) (by first | omega | decide) (by first | omega | decide) (by first | omega | decide) (by first | omega | decide) (by first | omega | decide) (by first | omega | decide) (by first | omega | decide) (by first | omega | decide) (by first | omega | decide) G1 A1_115 A1_121 A1_141 n1 z1
set_option maxHeartbeats 8000000 in
set_option maxRecDepth 20000 in
theorem hb_room3 {J : xe_J} {ov : List (List Int32)} {d N Z : Nat} (hJ : ∀ d mj as h, mj ≠ xe_loff → J d mj as h = none) {Q : Option Value → xe_H → Prop} {hr w0 w1 w2 w3 w4 w5 y0 y1 y2 y3 y4 y5 : Int32} {h : xe_H} (h_0 : 0 ≤ y0.toInt) (h_1 : 0 ≤ y1.toInt) (h_2 : 0 ≤ y2.toInt) (h_3 : 0 ≤ y3.toInt) (h_4 : 0 ≤ y4.toInt) (h_5 : 0 ≤ y5.toInt) (h_6 : y0.toInt ≤ 880) (h_7 : y1.toInt ≤ 880) (h_8 : y2.toInt ≤ 880) (h_9 : y3.toInt ≤ 880) (h_10 : y4.toInt ≤ 880) (h_11 : y5.toInt ≤ 880) (h_12 : 0 ≤ hr.toInt) (h_13 : hr.toInt ≤ 599) (G0 : xg [0, 64, 115, 121, 141] h) (A0_115 : h[115]? = some (.inr (12, [.int 0, .int hr, .ref 116, .ref 117, .ref 118, .ref 119, .ref 120, .ref 121, .ref 122, .ref 123, .ref 124, .ref 125, .ref 126, .ref 127, .ref 128, .ref 129, .int 4, .ref 130, .int 0, .ref 131, .ref 132, .ref 133, .ref 134, .int 0, .ref 135, .ref 136, .ref 137, .ref 138, .ref 139, .ref 140, .ref 141, .ref 142, .int 5, .int 0, .int 0, .ref 143, .ref 144, .ref 145, .ref 146, .ref 147, .ref 148, .int 0, .ref 149, .ref 150, .ref 151, .int 0, .ref 152, .ref 153, .ref 154, .ref 155, .ref 156, .ref 157, .ref 158, .ref 159, .int 0, .ref 160, .int 0, .ref 161, .ref 162, .ref 163, .ref 164, .int 0, .ref 165, .ref 166]))) (A0_121 : h[121]? = some (.inl (0, .inl ([w0, w1, w2, w3, w4, w5])))) (A0_141 : h[141]? = some (.inl (0, .inl ([y0, y1, y2, y3, y4, y5])))) (n0 : h.length = N) (z0 : xe_sz h = Z) (kk : ∀ (y0_ y1_ y2_ y3_ y4_ y5_ : Int32) (h1 : xe_H), 0 ≤ y0_.toInt → 0 ≤ y1_.toInt → 0 ≤ y2_.toInt → 0 ≤ y3_.toInt → 0 ≤ y4_.toInt → 0 ≤ y5_.toInt → y0_.toInt ≤ 880 → y1_.toInt ≤ 880 → y2_.toInt ≤ 880 → y3_.toInt ≤ 880 → y4_.toInt ≤ 880 → y5_.toInt ≤ 880 → xg [0, 64, 115, 121, 141] h1 → h1[115]? = some (.inr (12, [.int 0, .int hr, .ref 116, .ref 117, .ref 118, .ref 119, .ref 120, .ref 121, .ref 122, .ref 123, .ref 124, .ref 125, .ref 126, .ref 127, .ref 128, .ref 129, .int 4, .ref 130, .int 0, .ref 131, .ref 132, .ref 133, .ref 134, .int 0, .ref 135, .ref 136, .ref 137, .ref 138, .ref 139, .ref 140, .ref 141, .ref 142, .int 5, .int 0, .int 0, .ref 143, .ref 144, .ref 145, .ref 146, .ref 147, .ref 148, .int 0, .ref 149, .ref 150, .ref 151, .int 0, .ref 152, .ref 153, .ref 154, .ref 155, .ref 156, .ref 157, .ref 158, .ref 159, .int 0, .ref 160, .int 0, .ref 161, .ref 162, .ref 163, .ref 164, .int 0, .ref 165, .ref 166])) → h1[121]? = some (.inl (0, .inl ([w0, w1, w2, w3, w4, w5]))) → h1[141]? = some (.inl (0, .inl ([y0_, y1_, y2_, y3_, y4_, y5_]))) → h1.length = N → xe_sz h1 = Z → Q (none) h1) : xw J ov (d + 4) 38 (0, [(0, .ref 115), (1, .int 3), (2, .int 0), (3, .int 1), (4, .int hr)], [], h) Q := by
  refine xi_aload_n (pc' := 1) (x := 115) kc_38_0 rfl rfl ?_
  refine xi_getfield (pc' := 4) (v := .ref 141) kc_38_1 rfl rfl rfl A0_115 rfl ?_
  refine xi_iload_n (pc' := 5) (x := 3) kc_38_4 rfl rfl ?_
  refine xi_iaload (pc' := 6) (v := y3) kc_38_5 rfl A0_141 (by decide) rfl (xi_in (n := 6) (by decide) (by decide)) rfl ?_
  refine xi_aload_n (pc' := 7) (x := 115) kc_38_6 rfl rfl ?_
  refine xi_getfield (pc' := 10) (v := .ref 122) kc_38_7 rfl rfl rfl A0_115 rfl ?_
  refine xi_bipush (pc' := 12) (v := 24) kc_38_10 rfl rfl ?_
  refine xi_iload_n (pc' := 13) (x := 3) kc_38_12 rfl rfl ?_
  refine xi_imul (pc' := 14) (v := 72) kc_38_13 rfl rfl ?_
  refine xi_iload (pc' := 16) (x := hr) kc_38_14 rfl rfl ?_
  refine xi_bipush (pc' := 18) (v := 24) kc_38_16 rfl rfl ?_
  obtain ⟨v1, ev1⟩ : ∃ q : Int32, hr - hr / 24 * 24 = q := ⟨_, rfl⟩
  have dv1 : 0 ≤ v1.toInt ∧ v1.toInt < 24 := by rw [← ev1]; exact xz_rem (X := hr.toInt) (Y := 24) rfl (by decide) (by omega) (by decide)
  refine xi_irem (pc' := 19) (v := v1) kc_38_18 rfl ev1 (by decide) ?_
  obtain ⟨v2, ev2⟩ : ∃ q : Int32, 72 + v1 = q := ⟨_, rfl⟩
  have zv2 : v2.toInt = (v1.toInt + 72) := by rw [← ev2]; exact (xz_add (X := 72) (Y := v1.toInt) (by decide) rfl (by omega) (by omega)).trans (by omega)
  refine xi_iadd (pc' := 20) (v := v2) kc_38_19 rfl ev2 ?_
  refine xi_iaload (pc' := 21) (v := 0) kc_38_20 rfl (G0 122 _ rfl hl_122) (by decide) rfl (xi_in (by rw [zv2]; omega) (by rw [zv2]; simp only [List.length_replicate]; omega)) (xa_rep (by rw [zv2]; omega) (by rw [zv2]; omega)) ?_
  obtain ⟨v3, ev3⟩ : ∃ q : Int32, y3 + 0 = q := ⟨_, rfl⟩
  have zv3 : v3.toInt = y3.toInt := by rw [← ev3]; exact (xz_add (X := y3.toInt) (Y := 0) rfl (by decide) (by omega) (by omega)).trans (by omega)
  refine xi_iadd (pc' := 22) (v := v3) kc_38_21 rfl ev3 ?_
  refine xi_istore (pc' := 24) (lv' := [(5, .int v3), (0, .ref 115), (1, .int 3), (2, .int 0), (3, .int 1), (4, .int hr)]) kc_38_22 rfl rfl (xm_lt ml_38 rfl) ?_
  refine xi_iconst (pc' := 25) (v := 0) kc_38_24 rfl rfl ?_
  refine xi_istore (pc' := 27) (lv' := [(6, .int 0), (5, .int v3), (0, .ref 115), (1, .int 3), (2, .int 0), (3, .int 1), (4, .int hr)]) kc_38_25 rfl rfl (xm_lt ml_38 rfl) ?_
  refine xi_iload (pc' := 29) (x := 0) kc_38_27 rfl rfl ?_
  refine xi_aload_n (pc' := 30) (x := 115) kc_38_29 rfl rfl ?_
  refine xi_getfield (pc' := 33) (v := .int 0) kc_38_30 rfl rfl rfl A0_115 rfl ?_
  refine xi_cmt (pc' := 93) kc_38_33 rfl rfl ?_
  refine xi_iload (pc' := 95) (x := v3) kc_38_93 rfl rfl ?_
  refine xi_static (mj := 40) (as := [.int v3]) (st1 := []) (lv0 := [(0, .int v3)]) kc_38_95 rfl rfl (Nat.le_of_ble_eq_true rfl) rfl rfl (Nat.le_of_ble_eq_true rfl) (hJ _ _ _ _ (by decide)) (xm_le ml_40 rfl) rfl ?_
  refine xi_iload_n (pc' := 1) (x := v3) kc_40_0 rfl rfl ?_
  refine xi_ift (pc' := 8) kc_40_1 rfl (xc_ge_t (X := y3.toInt) (Y := 0) zv3 (by decide) (by omega)) ?_
  refine xi_iload_n (pc' := 9) (x := v3) kc_40_8 rfl rfl ?_
  refine xi_ldc (pc' := 11) (v := 99999) kc_40_9 rfl rfl ?_
  refine xi_cmt (pc' := 19) kc_40_11 rfl (xc_le_t (X := y3.toInt) (Y := 99999) zv3 (by decide) (by omega)) ?_
  refine xi_iload_n (pc' := 20) (x := v3) kc_40_19 rfl rfl ?_
  refine xi_ireturn kc_40_20 mr_40 rfl ?_
  show xw J ov (d + 4) 38 (98, [(6, .int 0), (5, .int v3), (0, .ref 115), (1, .int 3), (2, .int 0), (3, .int 1), (4, .int hr)], [.int v3], h) _
  refine xi_istore (pc' := 100) (lv' := [(5, .int v3), (6, .int 0), (0, .ref 115), (1, .int 3), (2, .int 0), (3, .int 1), (4, .int hr)]) kc_38_98 rfl rfl (xm_lt ml_38 rfl) ?_
  refine xi_aload_n (pc' := 101) (x := 115) kc_38_100 rfl rfl ?_
  refine xi_getfield (pc' := 104) (v := .ref 116) kc_38_101 rfl rfl rfl A0_115 rfl ?_
  refine xi_iload_n (pc' := 105) (x := 3) kc_38_104 rfl rfl ?_
  refine xi_iaload (pc' := 106) (v := 40) kc_38_105 rfl (G0 116 _ rfl hl_116) (by decide) rfl (xi_in (n := 6) (by decide) (by decide)) rfl ?_
  refine xi_aload_n (pc' := 107) (x := 115) kc_38_106 rfl rfl ?_
  refine xi_getfield (pc' := 110) (v := .int 5) kc_38_107 rfl rfl rfl A0_115 rfl ?_
  refine xi_static (mj := 23) (as := [.int 5]) (st1 := [.int 40]) (lv0 := [(0, .int 5)]) kc_38_110 rfl rfl (Nat.le_of_ble_eq_true rfl) rfl rfl (Nat.le_of_ble_eq_true rfl) (hJ _ _ _ _ (by decide)) (xm_le ml_23 rfl) rfl ?_
  refine xi_iload_n (pc' := 1) (x := 5) kc_23_0 rfl rfl ?_
  refine xi_iff (pc' := 4) kc_23_1 rfl rfl ?_
  refine xi_iconst (pc' := 5) (v := 5) kc_23_4 rfl rfl ?_
  refine xi_iload_n (pc' := 6) (x := 5) kc_23_5 rfl rfl ?_
  refine xi_iconst (pc' := 7) (v := 2) kc_23_6 rfl rfl ?_
  refine xi_idiv (pc' := 8) (v := 2) kc_23_7 rfl rfl (by decide) ?_
  refine xi_iadd (pc' := 9) (v := 7) kc_23_8 rfl rfl ?_
  refine xi_iload_n (pc' := 10) (x := 5) kc_23_9 rfl rfl ?_
  refine xi_iload_n (pc' := 11) (x := 5) kc_23_10 rfl rfl ?_
  refine xi_imul (pc' := 12) (v := 25) kc_23_11 rfl rfl ?_
  refine xi_bipush (pc' := 14) (v := 40) kc_23_12 rfl rfl ?_
  refine xi_idiv (pc' := 15) (v := 0) kc_23_14 rfl rfl (by decide) ?_
  refine xi_iadd (pc' := 16) (v := 7) kc_23_15 rfl rfl ?_
  refine xi_ireturn kc_23_16 mr_23 rfl ?_
  show xw J ov (d + 4) 38 (113, [(5, .int v3), (6, .int 0), (0, .ref 115), (1, .int 3), (2, .int 0), (3, .int 1), (4, .int hr)], [.int 7, .int 40], h) _
  refine xi_imul (pc' := 114) (v := 280) kc_38_113 rfl rfl ?_
  refine xi_iconst (pc' := 115) (v := 2) kc_38_114 rfl rfl ?_
  refine xi_idiv (pc' := 116) (v := 140) kc_38_115 rfl rfl (by decide) ?_
  refine xi_istore (pc' := 118) (lv' := [(6, .int 140), (5, .int v3), (0, .ref 115), (1, .int 3), (2, .int 0), (3, .int 1), (4, .int hr)]) kc_38_116 rfl rfl (xm_lt ml_38 rfl) ?_
  refine xi_iload (pc' := 120) (x := v3) kc_38_118 rfl rfl ?_
  refine xi_iload (pc' := 122) (x := v3) kc_38_120 rfl rfl ?_
  refine xi_iload (pc' := 124) (x := 140) kc_38_122 rfl rfl ?_
  obtain ⟨v4, ev4⟩ : ∃ q : Int32, v3 - 140 = q := ⟨_, rfl⟩
  have zv4 : v4.toInt = (y3.toInt + (-140)) := by rw [← ev4]; exact (xz_sub (X := y3.toInt) (Y := 140) zv3 (by decide) (by omega) (by omega)).trans (by omega)
  refine xi_isub (pc' := 125) (v := v4) kc_38_124 rfl ev4 ?_
  refine xi_aload_n (pc' := 126) (x := 115) kc_38_125 rfl rfl ?_
  refine xi_getfield (pc' := 129) (v := .ref 118) kc_38_126 rfl rfl rfl A0_115 rfl ?_
  refine xi_iload_n (pc' := 130) (x := 3) kc_38_129 rfl rfl ?_
  refine xi_iaload (pc' := 131) (v := 10) kc_38_130 rfl (G0 118 _ rfl hl_118) (by decide) rfl (xi_in (n := 6) (by decide) (by decide)) rfl ?_
  refine xi_aload_n (pc' := 132) (x := 115) kc_38_131 rfl rfl ?_
  refine xi_getfield (pc' := 135) (v := .ref 120) kc_38_132 rfl rfl rfl A0_115 rfl ?_
  refine xi_iload_n (pc' := 136) (x := 3) kc_38_135 rfl rfl ?_
  refine xi_iaload (pc' := 137) (v := 0) kc_38_136 rfl (G0 120 _ rfl hl_120) (by decide) rfl (xi_in (n := 6) (by decide) (by decide)) rfl ?_
  refine xi_iconst (pc' := 138) (v := 1) kc_38_137 rfl rfl ?_
  refine xi_cmt (pc' := 150) kc_38_138 rfl rfl ?_
  refine xi_iconst (pc' := 151) (v := 0) kc_38_150 rfl rfl ?_
  refine xi_iadd (pc' := 152) (v := 10) kc_38_151 rfl rfl ?_
  obtain ⟨v5, ev5⟩ : ∃ q : Int32, v4 * 10 = q := ⟨_, rfl⟩
  have zv5 : v5.toInt = ((10) * y3.toInt + (-1400)) := by rw [← ev5]; exact (xz_mul (X := (y3.toInt + (-140))) (Y := 10) zv4 (by decide) (by omega) (by omega)).trans (by omega)
  refine xi_imul (pc' := 153) (v := v5) kc_38_152 rfl ev5 ?_
  refine xi_bipush (pc' := 155) (v := 100) kc_38_153 rfl rfl ?_
  obtain ⟨v6, ev6⟩ : ∃ q : Int32, v5 / 100 = q := ⟨_, rfl⟩
  have dv6 : 100 * v6.toInt ≤ ((10) * y3.toInt + (-1400)) + 99 ∧ ((10) * y3.toInt + (-1400)) ≤ 100 * v6.toInt + 99 := by rw [← ev6]; exact xz_div (X := ((10) * y3.toInt + (-1400))) (Y := 100) zv5 (by decide) (by decide)
  have bv6 : -15 ≤ v6.toInt ∧ v6.toInt ≤ 75 := by omega
  refine xi_idiv (pc' := 156) (v := v6) kc_38_155 rfl ev6 (by decide) ?_
  obtain ⟨v7, ev7⟩ : ∃ q : Int32, v3 - v6 = q := ⟨_, rfl⟩
  have zv7 : v7.toInt = (y3.toInt + (-1) * v6.toInt) := by rw [← ev7]; exact (xz_sub (X := y3.toInt) (Y := v6.toInt) zv3 rfl (by omega) (by omega)).trans (by omega)
  have bv7 : 0 ≤ v7.toInt ∧ v7.toInt ≤ 880 := by omega
  refine xi_isub (pc' := 157) (v := v7) kc_38_156 rfl ev7 ?_
  refine xi_static (mj := 40) (as := [.int v7]) (st1 := []) (lv0 := [(0, .int v7)]) kc_38_157 rfl rfl (Nat.le_of_ble_eq_true rfl) rfl rfl (Nat.le_of_ble_eq_true rfl) (hJ _ _ _ _ (by decide)) (xm_le ml_40 rfl) rfl ?_
  refine xi_iload_n (pc' := 1) (x := v7) kc_40_0 rfl rfl ?_
  refine xi_ift (pc' := 8) kc_40_1 rfl (xc_ge_t (X := v7.toInt) (Y := 0) rfl (by decide) (by omega)) ?_
  refine xi_iload_n (pc' := 9) (x := v7) kc_40_8 rfl rfl ?_
  refine xi_ldc (pc' := 11) (v := 99999) kc_40_9 rfl rfl ?_
  refine xi_cmt (pc' := 19) kc_40_11 rfl (xc_le_t (X := v7.toInt) (Y := 99999) rfl (by decide) (by omega)) ?_
  refine xi_iload_n (pc' := 20) (x := v7) kc_40_19 rfl rfl ?_
  refine xi_ireturn kc_40_20 mr_40 rfl ?_
  show xw J ov (d + 4) 38 (160, [(6, .int 140), (5, .int v3), (0, .ref 115), (1, .int 3), (2, .int 0), (3, .int 1), (4, .int hr)], [.int v7], h) _
  refine xi_istore (pc' := 162) (lv' := [(5, .int v7), (6, .int 140), (0, .ref 115), (1, .int 3), (2, .int 0), (3, .int 1), (4, .int hr)]) kc_38_160 rfl rfl (xm_lt ml_38 rfl) ?_
  refine xi_aload_n (pc' := 163) (x := 115) kc_38_162 rfl rfl ?_
  refine xi_getfield (pc' := 166) (v := .ref 116) kc_38_163 rfl rfl rfl A0_115 rfl ?_
  refine xi_iload_n (pc' := 167) (x := 3) kc_38_166 rfl rfl ?_
  refine xi_iaload (pc' := 168) (v := 40) kc_38_167 rfl (G0 116 _ rfl hl_116) (by decide) rfl (xi_in (n := 6) (by decide) (by decide)) rfl ?_
  refine xi_aload_n (pc' := 169) (x := 115) kc_38_168 rfl rfl ?_
  refine xi_getfield (pc' := 172) (v := .ref 117) kc_38_169 rfl rfl rfl A0_115 rfl ?_
  refine xi_iload_n (pc' := 173) (x := 3) kc_38_172 rfl rfl ?_
  refine xi_iaload (pc' := 174) (v := 18) kc_38_173 rfl (G0 117 _ rfl hl_117) (by decide) rfl (xi_in (n := 6) (by decide) (by decide)) rfl ?_
  refine xi_static (mj := 23) (as := [.int 18]) (st1 := [.int 40]) (lv0 := [(0, .int 18)]) kc_38_174 rfl rfl (Nat.le_of_ble_eq_true rfl) rfl rfl (Nat.le_of_ble_eq_true rfl) (hJ _ _ _ _ (by decide)) (xm_le ml_23 rfl) rfl ?_
  refine xi_iload_n (pc' := 1) (x := 18) kc_23_0 rfl rfl ?_
  refine xi_iff (pc' := 4) kc_23_1 rfl rfl ?_
  refine xi_iconst (pc' := 5) (v := 5) kc_23_4 rfl rfl ?_
  refine xi_iload_n (pc' := 6) (x := 18) kc_23_5 rfl rfl ?_
  refine xi_iconst (pc' := 7) (v := 2) kc_23_6 rfl rfl ?_
  refine xi_idiv (pc' := 8) (v := 9) kc_23_7 rfl rfl (by decide) ?_
  refine xi_iadd (pc' := 9) (v := 14) kc_23_8 rfl rfl ?_
  refine xi_iload_n (pc' := 10) (x := 18) kc_23_9 rfl rfl ?_
  refine xi_iload_n (pc' := 11) (x := 18) kc_23_10 rfl rfl ?_
  refine xi_imul (pc' := 12) (v := 324) kc_23_11 rfl rfl ?_
  refine xi_bipush (pc' := 14) (v := 40) kc_23_12 rfl rfl ?_
  refine xi_idiv (pc' := 15) (v := 8) kc_23_14 rfl rfl (by decide) ?_
  refine xi_iadd (pc' := 16) (v := 22) kc_23_15 rfl rfl ?_
  refine xi_ireturn kc_23_16 mr_23 rfl ?_
  show xw J ov (d + 4) 38 (177, [(5, .int v7), (6, .int 140), (0, .ref 115), (1, .int 3), (2, .int 0), (3, .int 1), (4, .int hr)], [.int 22, .int 40], h) _
  refine xi_imul (pc' := 178) (v := 880) kc_38_177 rfl rfl ?_
  refine xi_istore (pc' := 180) (lv' := [(7, .int 880), (5, .int v7), (6, .int 140), (0, .ref 115), (1, .int 3), (2, .int 0), (3, .int 1), (4, .int hr)]) kc_38_178 rfl rfl (xm_lt ml_38 rfl) ?_
  refine xi_iload (pc' := 182) (x := v7) kc_38_180 rfl rfl ?_
  refine xi_iload (pc' := 184) (x := 880) kc_38_182 rfl rfl ?_
  refine xi_cmt (pc' := 195) kc_38_184 rfl (xc_le_t (X := v7.toInt) (Y := 880) rfl (by decide) (by omega)) ?_
  refine xi_iconst (pc' := 196) (v := 0) kc_38_195 rfl rfl ?_
  refine xi_istore (pc' := 198) (lv' := [(8, .int 0), (7, .int 880), (5, .int v7), (6, .int 140), (0, .ref 115), (1, .int 3), (2, .int 0), (3, .int 1), (4, .int hr)]) kc_38_196 rfl rfl (xm_lt ml_38 rfl) ?_
  refine xi_aload_n (pc' := 199) (x := 115) kc_38_198 rfl rfl ?_
  refine xi_getfield (pc' := 202) (v := .ref 141) kc_38_199 rfl rfl rfl A0_115 rfl ?_
  refine xi_iload_n (pc' := 203) (x := 3) kc_38_202 rfl rfl ?_
  refine xi_iload (pc' := 205) (x := v7) kc_38_203 rfl rfl ?_
  refine xi_iload (pc' := 207) (x := 0) kc_38_205 rfl rfl ?_
  obtain ⟨v8, ev8⟩ : ∃ q : Int32, v7 - 0 = q := ⟨_, rfl⟩
  have zv8 : v8.toInt = v7.toInt := by rw [← ev8]; exact (xz_sub (X := v7.toInt) (Y := 0) rfl (by decide) (by omega) (by omega)).trans (by omega)
  refine xi_isub (pc' := 208) (v := v8) kc_38_207 rfl ev8 ?_
  refine xi_iastore (pc' := 209) (x' := [y0, y1, y2, v8, y4, y5]) kc_38_208 rfl A0_141 rfl (xi_in (n := 6) (by decide) (by decide)) rfl (fun hh1 eh1 => ?_)
  have G1 := xg_skip G0 eh1 rfl
  have A1_115 := (eh1.2.1 115 (by decide)).trans A0_115
  have A1_121 := (eh1.2.1 121 (by decide)).trans A0_121
  have A1_141 := eh1.1
  have n1 := eh1.2.2.1.trans n0
  have z1 := eh1.2.2.2.trans z0
  clear G0 n0 z0 A0_115 A0_121 A0_141 eh1
  refine xi_iload (pc' := 211) (x := 0) kc_38_209 rfl rfl ?_
  refine xi_ift (pc' := 221) kc_38_211 rfl rfl ?_
  refine xi_return kc_38_221 mr_38 ?_
  exact kk y0 y1 y2 v8 y4 y5 hh1 (by first | omega | decide) (by first | omega | decide) (by first | omega | decide) (by first | omega | decide) (by first | omega | decide) (by first | omega | decide) (by first | omega | decide) (by first | omega | decide) (by first | omega | decide) (by first | omega | decide) (by first | omega | decide) (by first | omega | decide) G1 A1_115 A1_121 A1_141 n1 z1
set_option maxHeartbeats 8000000 in
set_option maxRecDepth 20000 in
theorem hb_room4 {J : xe_J} {ov : List (List Int32)} {d N Z : Nat} (hJ : ∀ d mj as h, mj ≠ xe_loff → J d mj as h = none) {Q : Option Value → xe_H → Prop} {hr w0 w1 w2 w3 w4 w5 y0 y1 y2 y3 y4 y5 : Int32} {h : xe_H} (h_0 : 0 ≤ y0.toInt) (h_1 : 0 ≤ y1.toInt) (h_2 : 0 ≤ y2.toInt) (h_3 : 0 ≤ y3.toInt) (h_4 : 0 ≤ y4.toInt) (h_5 : 0 ≤ y5.toInt) (h_6 : y0.toInt ≤ 880) (h_7 : y1.toInt ≤ 880) (h_8 : y2.toInt ≤ 880) (h_9 : y3.toInt ≤ 880) (h_10 : y4.toInt ≤ 880) (h_11 : y5.toInt ≤ 880) (h_12 : 0 ≤ hr.toInt) (h_13 : hr.toInt ≤ 599) (G0 : xg [0, 64, 115, 121, 141] h) (A0_115 : h[115]? = some (.inr (12, [.int 0, .int hr, .ref 116, .ref 117, .ref 118, .ref 119, .ref 120, .ref 121, .ref 122, .ref 123, .ref 124, .ref 125, .ref 126, .ref 127, .ref 128, .ref 129, .int 4, .ref 130, .int 0, .ref 131, .ref 132, .ref 133, .ref 134, .int 0, .ref 135, .ref 136, .ref 137, .ref 138, .ref 139, .ref 140, .ref 141, .ref 142, .int 5, .int 0, .int 0, .ref 143, .ref 144, .ref 145, .ref 146, .ref 147, .ref 148, .int 0, .ref 149, .ref 150, .ref 151, .int 0, .ref 152, .ref 153, .ref 154, .ref 155, .ref 156, .ref 157, .ref 158, .ref 159, .int 0, .ref 160, .int 0, .ref 161, .ref 162, .ref 163, .ref 164, .int 0, .ref 165, .ref 166]))) (A0_121 : h[121]? = some (.inl (0, .inl ([w0, w1, w2, w3, w4, w5])))) (A0_141 : h[141]? = some (.inl (0, .inl ([y0, y1, y2, y3, y4, y5])))) (n0 : h.length = N) (z0 : xe_sz h = Z) (kk : ∀ (y0_ y1_ y2_ y3_ y4_ y5_ : Int32) (h1 : xe_H), 0 ≤ y0_.toInt → 0 ≤ y1_.toInt → 0 ≤ y2_.toInt → 0 ≤ y3_.toInt → 0 ≤ y4_.toInt → 0 ≤ y5_.toInt → y0_.toInt ≤ 880 → y1_.toInt ≤ 880 → y2_.toInt ≤ 880 → y3_.toInt ≤ 880 → y4_.toInt ≤ 880 → y5_.toInt ≤ 880 → xg [0, 64, 115, 121, 141] h1 → h1[115]? = some (.inr (12, [.int 0, .int hr, .ref 116, .ref 117, .ref 118, .ref 119, .ref 120, .ref 121, .ref 122, .ref 123, .ref 124, .ref 125, .ref 126, .ref 127, .ref 128, .ref 129, .int 4, .ref 130, .int 0, .ref 131, .ref 132, .ref 133, .ref 134, .int 0, .ref 135, .ref 136, .ref 137, .ref 138, .ref 139, .ref 140, .ref 141, .ref 142, .int 5, .int 0, .int 0, .ref 143, .ref 144, .ref 145, .ref 146, .ref 147, .ref 148, .int 0, .ref 149, .ref 150, .ref 151, .int 0, .ref 152, .ref 153, .ref 154, .ref 155, .ref 156, .ref 157, .ref 158, .ref 159, .int 0, .ref 160, .int 0, .ref 161, .ref 162, .ref 163, .ref 164, .int 0, .ref 165, .ref 166])) → h1[121]? = some (.inl (0, .inl ([w0, w1, w2, w3, w4, w5]))) → h1[141]? = some (.inl (0, .inl ([y0_, y1_, y2_, y3_, y4_, y5_]))) → h1.length = N → xe_sz h1 = Z → Q (none) h1) : xw J ov (d + 4) 38 (0, [(0, .ref 115), (1, .int 4), (2, .int 0), (3, .int 1), (4, .int hr)], [], h) Q := by
  refine xi_aload_n (pc' := 1) (x := 115) kc_38_0 rfl rfl ?_
  refine xi_getfield (pc' := 4) (v := .ref 141) kc_38_1 rfl rfl rfl A0_115 rfl ?_
  refine xi_iload_n (pc' := 5) (x := 4) kc_38_4 rfl rfl ?_
  refine xi_iaload (pc' := 6) (v := y4) kc_38_5 rfl A0_141 (by decide) rfl (xi_in (n := 6) (by decide) (by decide)) rfl ?_
  refine xi_aload_n (pc' := 7) (x := 115) kc_38_6 rfl rfl ?_
  refine xi_getfield (pc' := 10) (v := .ref 122) kc_38_7 rfl rfl rfl A0_115 rfl ?_
  refine xi_bipush (pc' := 12) (v := 24) kc_38_10 rfl rfl ?_
  refine xi_iload_n (pc' := 13) (x := 4) kc_38_12 rfl rfl ?_
  refine xi_imul (pc' := 14) (v := 96) kc_38_13 rfl rfl ?_
  refine xi_iload (pc' := 16) (x := hr) kc_38_14 rfl rfl ?_
  refine xi_bipush (pc' := 18) (v := 24) kc_38_16 rfl rfl ?_
  obtain ⟨v1, ev1⟩ : ∃ q : Int32, hr - hr / 24 * 24 = q := ⟨_, rfl⟩
  have dv1 : 0 ≤ v1.toInt ∧ v1.toInt < 24 := by rw [← ev1]; exact xz_rem (X := hr.toInt) (Y := 24) rfl (by decide) (by omega) (by decide)
  refine xi_irem (pc' := 19) (v := v1) kc_38_18 rfl ev1 (by decide) ?_
  obtain ⟨v2, ev2⟩ : ∃ q : Int32, 96 + v1 = q := ⟨_, rfl⟩
  have zv2 : v2.toInt = (v1.toInt + 96) := by rw [← ev2]; exact (xz_add (X := 96) (Y := v1.toInt) (by decide) rfl (by omega) (by omega)).trans (by omega)
  refine xi_iadd (pc' := 20) (v := v2) kc_38_19 rfl ev2 ?_
  refine xi_iaload (pc' := 21) (v := 0) kc_38_20 rfl (G0 122 _ rfl hl_122) (by decide) rfl (xi_in (by rw [zv2]; omega) (by rw [zv2]; simp only [List.length_replicate]; omega)) (xa_rep (by rw [zv2]; omega) (by rw [zv2]; omega)) ?_
  obtain ⟨v3, ev3⟩ : ∃ q : Int32, y4 + 0 = q := ⟨_, rfl⟩
  have zv3 : v3.toInt = y4.toInt := by rw [← ev3]; exact (xz_add (X := y4.toInt) (Y := 0) rfl (by decide) (by omega) (by omega)).trans (by omega)
  refine xi_iadd (pc' := 22) (v := v3) kc_38_21 rfl ev3 ?_
  refine xi_istore (pc' := 24) (lv' := [(5, .int v3), (0, .ref 115), (1, .int 4), (2, .int 0), (3, .int 1), (4, .int hr)]) kc_38_22 rfl rfl (xm_lt ml_38 rfl) ?_
  refine xi_iconst (pc' := 25) (v := 0) kc_38_24 rfl rfl ?_
  refine xi_istore (pc' := 27) (lv' := [(6, .int 0), (5, .int v3), (0, .ref 115), (1, .int 4), (2, .int 0), (3, .int 1), (4, .int hr)]) kc_38_25 rfl rfl (xm_lt ml_38 rfl) ?_
  refine xi_iload (pc' := 29) (x := 0) kc_38_27 rfl rfl ?_
  refine xi_aload_n (pc' := 30) (x := 115) kc_38_29 rfl rfl ?_
  refine xi_getfield (pc' := 33) (v := .int 0) kc_38_30 rfl rfl rfl A0_115 rfl ?_
  refine xi_cmt (pc' := 93) kc_38_33 rfl rfl ?_
  refine xi_iload (pc' := 95) (x := v3) kc_38_93 rfl rfl ?_
  refine xi_static (mj := 40) (as := [.int v3]) (st1 := []) (lv0 := [(0, .int v3)]) kc_38_95 rfl rfl (Nat.le_of_ble_eq_true rfl) rfl rfl (Nat.le_of_ble_eq_true rfl) (hJ _ _ _ _ (by decide)) (xm_le ml_40 rfl) rfl ?_
  refine xi_iload_n (pc' := 1) (x := v3) kc_40_0 rfl rfl ?_
  refine xi_ift (pc' := 8) kc_40_1 rfl (xc_ge_t (X := y4.toInt) (Y := 0) zv3 (by decide) (by omega)) ?_
  refine xi_iload_n (pc' := 9) (x := v3) kc_40_8 rfl rfl ?_
  refine xi_ldc (pc' := 11) (v := 99999) kc_40_9 rfl rfl ?_
  refine xi_cmt (pc' := 19) kc_40_11 rfl (xc_le_t (X := y4.toInt) (Y := 99999) zv3 (by decide) (by omega)) ?_
  refine xi_iload_n (pc' := 20) (x := v3) kc_40_19 rfl rfl ?_
  refine xi_ireturn kc_40_20 mr_40 rfl ?_
  show xw J ov (d + 4) 38 (98, [(6, .int 0), (5, .int v3), (0, .ref 115), (1, .int 4), (2, .int 0), (3, .int 1), (4, .int hr)], [.int v3], h) _
  refine xi_istore (pc' := 100) (lv' := [(5, .int v3), (6, .int 0), (0, .ref 115), (1, .int 4), (2, .int 0), (3, .int 1), (4, .int hr)]) kc_38_98 rfl rfl (xm_lt ml_38 rfl) ?_
  refine xi_aload_n (pc' := 101) (x := 115) kc_38_100 rfl rfl ?_
  refine xi_getfield (pc' := 104) (v := .ref 116) kc_38_101 rfl rfl rfl A0_115 rfl ?_
  refine xi_iload_n (pc' := 105) (x := 4) kc_38_104 rfl rfl ?_
  refine xi_iaload (pc' := 106) (v := 40) kc_38_105 rfl (G0 116 _ rfl hl_116) (by decide) rfl (xi_in (n := 6) (by decide) (by decide)) rfl ?_
  refine xi_aload_n (pc' := 107) (x := 115) kc_38_106 rfl rfl ?_
  refine xi_getfield (pc' := 110) (v := .int 5) kc_38_107 rfl rfl rfl A0_115 rfl ?_
  refine xi_static (mj := 23) (as := [.int 5]) (st1 := [.int 40]) (lv0 := [(0, .int 5)]) kc_38_110 rfl rfl (Nat.le_of_ble_eq_true rfl) rfl rfl (Nat.le_of_ble_eq_true rfl) (hJ _ _ _ _ (by decide)) (xm_le ml_23 rfl) rfl ?_
  refine xi_iload_n (pc' := 1) (x := 5) kc_23_0 rfl rfl ?_
  refine xi_iff (pc' := 4) kc_23_1 rfl rfl ?_
  refine xi_iconst (pc' := 5) (v := 5) kc_23_4 rfl rfl ?_
  refine xi_iload_n (pc' := 6) (x := 5) kc_23_5 rfl rfl ?_
  refine xi_iconst (pc' := 7) (v := 2) kc_23_6 rfl rfl ?_
  refine xi_idiv (pc' := 8) (v := 2) kc_23_7 rfl rfl (by decide) ?_
  refine xi_iadd (pc' := 9) (v := 7) kc_23_8 rfl rfl ?_
  refine xi_iload_n (pc' := 10) (x := 5) kc_23_9 rfl rfl ?_
  refine xi_iload_n (pc' := 11) (x := 5) kc_23_10 rfl rfl ?_
  refine xi_imul (pc' := 12) (v := 25) kc_23_11 rfl rfl ?_
  refine xi_bipush (pc' := 14) (v := 40) kc_23_12 rfl rfl ?_
  refine xi_idiv (pc' := 15) (v := 0) kc_23_14 rfl rfl (by decide) ?_
  refine xi_iadd (pc' := 16) (v := 7) kc_23_15 rfl rfl ?_
  refine xi_ireturn kc_23_16 mr_23 rfl ?_
  show xw J ov (d + 4) 38 (113, [(5, .int v3), (6, .int 0), (0, .ref 115), (1, .int 4), (2, .int 0), (3, .int 1), (4, .int hr)], [.int 7, .int 40], h) _
  refine xi_imul (pc' := 114) (v := 280) kc_38_113 rfl rfl ?_
  refine xi_iconst (pc' := 115) (v := 2) kc_38_114 rfl rfl ?_
  refine xi_idiv (pc' := 116) (v := 140) kc_38_115 rfl rfl (by decide) ?_
  refine xi_istore (pc' := 118) (lv' := [(6, .int 140), (5, .int v3), (0, .ref 115), (1, .int 4), (2, .int 0), (3, .int 1), (4, .int hr)]) kc_38_116 rfl rfl (xm_lt ml_38 rfl) ?_
  refine xi_iload (pc' := 120) (x := v3) kc_38_118 rfl rfl ?_
  refine xi_iload (pc' := 122) (x := v3) kc_38_120 rfl rfl ?_
  refine xi_iload (pc' := 124) (x := 140) kc_38_122 rfl rfl ?_
  obtain ⟨v4, ev4⟩ : ∃ q : Int32, v3 - 140 = q := ⟨_, rfl⟩
  have zv4 : v4.toInt = (y4.toInt + (-140)) := by rw [← ev4]; exact (xz_sub (X := y4.toInt) (Y := 140) zv3 (by decide) (by omega) (by omega)).trans (by omega)
  refine xi_isub (pc' := 125) (v := v4) kc_38_124 rfl ev4 ?_
  refine xi_aload_n (pc' := 126) (x := 115) kc_38_125 rfl rfl ?_
  refine xi_getfield (pc' := 129) (v := .ref 118) kc_38_126 rfl rfl rfl A0_115 rfl ?_
  refine xi_iload_n (pc' := 130) (x := 4) kc_38_129 rfl rfl ?_
  refine xi_iaload (pc' := 131) (v := 10) kc_38_130 rfl (G0 118 _ rfl hl_118) (by decide) rfl (xi_in (n := 6) (by decide) (by decide)) rfl ?_
  refine xi_aload_n (pc' := 132) (x := 115) kc_38_131 rfl rfl ?_
  refine xi_getfield (pc' := 135) (v := .ref 120) kc_38_132 rfl rfl rfl A0_115 rfl ?_
  refine xi_iload_n (pc' := 136) (x := 4) kc_38_135 rfl rfl ?_
  refine xi_iaload (pc' := 137) (v := 0) kc_38_136 rfl (G0 120 _ rfl hl_120) (by decide) rfl (xi_in (n := 6) (by decide) (by decide)) rfl ?_
  refine xi_iconst (pc' := 138) (v := 1) kc_38_137 rfl rfl ?_
  refine xi_cmt (pc' := 150) kc_38_138 rfl rfl ?_
  refine xi_iconst (pc' := 151) (v := 0) kc_38_150 rfl rfl ?_
  refine xi_iadd (pc' := 152) (v := 10) kc_38_151 rfl rfl ?_
  obtain ⟨v5, ev5⟩ : ∃ q : Int32, v4 * 10 = q := ⟨_, rfl⟩
  have zv5 : v5.toInt = ((10) * y4.toInt + (-1400)) := by rw [← ev5]; exact (xz_mul (X := (y4.toInt + (-140))) (Y := 10) zv4 (by decide) (by omega) (by omega)).trans (by omega)
  refine xi_imul (pc' := 153) (v := v5) kc_38_152 rfl ev5 ?_
  refine xi_bipush (pc' := 155) (v := 100) kc_38_153 rfl rfl ?_
  obtain ⟨v6, ev6⟩ : ∃ q : Int32, v5 / 100 = q := ⟨_, rfl⟩
  have dv6 : 100 * v6.toInt ≤ ((10) * y4.toInt + (-1400)) + 99 ∧ ((10) * y4.toInt + (-1400)) ≤ 100 * v6.toInt + 99 := by rw [← ev6]; exact xz_div (X := ((10) * y4.toInt + (-1400))) (Y := 100) zv5 (by decide) (by decide)
  have bv6 : -15 ≤ v6.toInt ∧ v6.toInt ≤ 75 := by omega
  refine xi_idiv (pc' := 156) (v := v6) kc_38_155 rfl ev6 (by decide) ?_
  obtain ⟨v7, ev7⟩ : ∃ q : Int32, v3 - v6 = q := ⟨_, rfl⟩
  have zv7 : v7.toInt = (y4.toInt + (-1) * v6.toInt) := by rw [← ev7]; exact (xz_sub (X := y4.toInt) (Y := v6.toInt) zv3 rfl (by omega) (by omega)).trans (by omega)
  have bv7 : 0 ≤ v7.toInt ∧ v7.toInt ≤ 880 := by omega
  refine xi_isub (pc' := 157) (v := v7) kc_38_156 rfl ev7 ?_
  refine xi_static (mj := 40) (as := [.int v7]) (st1 := []) (lv0 := [(0, .int v7)]) kc_38_157 rfl rfl (Nat.le_of_ble_eq_true rfl) rfl rfl (Nat.le_of_ble_eq_true rfl) (hJ _ _ _ _ (by decide)) (xm_le ml_40 rfl) rfl ?_
  refine xi_iload_n (pc' := 1) (x := v7) kc_40_0 rfl rfl ?_
  refine xi_ift (pc' := 8) kc_40_1 rfl (xc_ge_t (X := v7.toInt) (Y := 0) rfl (by decide) (by omega)) ?_
  refine xi_iload_n (pc' := 9) (x := v7) kc_40_8 rfl rfl ?_
  refine xi_ldc (pc' := 11) (v := 99999) kc_40_9 rfl rfl ?_
  refine xi_cmt (pc' := 19) kc_40_11 rfl (xc_le_t (X := v7.toInt) (Y := 99999) rfl (by decide) (by omega)) ?_
  refine xi_iload_n (pc' := 20) (x := v7) kc_40_19 rfl rfl ?_
  refine xi_ireturn kc_40_20 mr_40 rfl ?_
  show xw J ov (d + 4) 38 (160, [(6, .int 140), (5, .int v3), (0, .ref 115), (1, .int 4), (2, .int 0), (3, .int 1), (4, .int hr)], [.int v7], h) _
  refine xi_istore (pc' := 162) (lv' := [(5, .int v7), (6, .int 140), (0, .ref 115), (1, .int 4), (2, .int 0), (3, .int 1), (4, .int hr)]) kc_38_160 rfl rfl (xm_lt ml_38 rfl) ?_
  refine xi_aload_n (pc' := 163) (x := 115) kc_38_162 rfl rfl ?_
  refine xi_getfield (pc' := 166) (v := .ref 116) kc_38_163 rfl rfl rfl A0_115 rfl ?_
  refine xi_iload_n (pc' := 167) (x := 4) kc_38_166 rfl rfl ?_
  refine xi_iaload (pc' := 168) (v := 40) kc_38_167 rfl (G0 116 _ rfl hl_116) (by decide) rfl (xi_in (n := 6) (by decide) (by decide)) rfl ?_
  refine xi_aload_n (pc' := 169) (x := 115) kc_38_168 rfl rfl ?_
  refine xi_getfield (pc' := 172) (v := .ref 117) kc_38_169 rfl rfl rfl A0_115 rfl ?_
  refine xi_iload_n (pc' := 173) (x := 4) kc_38_172 rfl rfl ?_
  refine xi_iaload (pc' := 174) (v := 18) kc_38_173 rfl (G0 117 _ rfl hl_117) (by decide) rfl (xi_in (n := 6) (by decide) (by decide)) rfl ?_
  refine xi_static (mj := 23) (as := [.int 18]) (st1 := [.int 40]) (lv0 := [(0, .int 18)]) kc_38_174 rfl rfl (Nat.le_of_ble_eq_true rfl) rfl rfl (Nat.le_of_ble_eq_true rfl) (hJ _ _ _ _ (by decide)) (xm_le ml_23 rfl) rfl ?_
  refine xi_iload_n (pc' := 1) (x := 18) kc_23_0 rfl rfl ?_
  refine xi_iff (pc' := 4) kc_23_1 rfl rfl ?_
  refine xi_iconst (pc' := 5) (v := 5) kc_23_4 rfl rfl ?_
  refine xi_iload_n (pc' := 6) (x := 18) kc_23_5 rfl rfl ?_
  refine xi_iconst (pc' := 7) (v := 2) kc_23_6 rfl rfl ?_
  refine xi_idiv (pc' := 8) (v := 9) kc_23_7 rfl rfl (by decide) ?_
  refine xi_iadd (pc' := 9) (v := 14) kc_23_8 rfl rfl ?_
  refine xi_iload_n (pc' := 10) (x := 18) kc_23_9 rfl rfl ?_
  refine xi_iload_n (pc' := 11) (x := 18) kc_23_10 rfl rfl ?_
  refine xi_imul (pc' := 12) (v := 324) kc_23_11 rfl rfl ?_
  refine xi_bipush (pc' := 14) (v := 40) kc_23_12 rfl rfl ?_
  refine xi_idiv (pc' := 15) (v := 8) kc_23_14 rfl rfl (by decide) ?_
  refine xi_iadd (pc' := 16) (v := 22) kc_23_15 rfl rfl ?_
  refine xi_ireturn kc_23_16 mr_23 rfl ?_
  show xw J ov (d + 4) 38 (177, [(5, .int v7), (6, .int 140), (0, .ref 115), (1, .int 4), (2, .int 0), (3, .int 1), (4, .int hr)], [.int 22, .int 40], h) _
  refine xi_imul (pc' := 178) (v := 880) kc_38_177 rfl rfl ?_
  refine xi_istore (pc' := 180) (lv' := [(7, .int 880), (5, .int v7), (6, .int 140), (0, .ref 115), (1, .int 4), (2, .int 0), (3, .int 1), (4, .int hr)]) kc_38_178 rfl rfl (xm_lt ml_38 rfl) ?_
  refine xi_iload (pc' := 182) (x := v7) kc_38_180 rfl rfl ?_
  refine xi_iload (pc' := 184) (x := 880) kc_38_182 rfl rfl ?_
  refine xi_cmt (pc' := 195) kc_38_184 rfl (xc_le_t (X := v7.toInt) (Y := 880) rfl (by decide) (by omega)) ?_
  refine xi_iconst (pc' := 196) (v := 0) kc_38_195 rfl rfl ?_
  refine xi_istore (pc' := 198) (lv' := [(8, .int 0), (7, .int 880), (5, .int v7), (6, .int 140), (0, .ref 115), (1, .int 4), (2, .int 0), (3, .int 1), (4, .int hr)]) kc_38_196 rfl rfl (xm_lt ml_38 rfl) ?_
  refine xi_aload_n (pc' := 199) (x := 115) kc_38_198 rfl rfl ?_
  refine xi_getfield (pc' := 202) (v := .ref 141) kc_38_199 rfl rfl rfl A0_115 rfl ?_
  refine xi_iload_n (pc' := 203) (x := 4) kc_38_202 rfl rfl ?_
  refine xi_iload (pc' := 205) (x := v7) kc_38_203 rfl rfl ?_
  refine xi_iload (pc' := 207) (x := 0) kc_38_205 rfl rfl ?_
  obtain ⟨v8, ev8⟩ : ∃ q : Int32, v7 - 0 = q := ⟨_, rfl⟩
  have zv8 : v8.toInt = v7.toInt := by rw [← ev8]; exact (xz_sub (X := v7.toInt) (Y := 0) rfl (by decide) (by omega) (by omega)).trans (by omega)
  refine xi_isub (pc' := 208) (v := v8) kc_38_207 rfl ev8 ?_
  refine xi_iastore (pc' := 209) (x' := [y0, y1, y2, y3, v8, y5]) kc_38_208 rfl A0_141 rfl (xi_in (n := 6) (by decide) (by decide)) rfl (fun hh1 eh1 => ?_)
  have G1 := xg_skip G0 eh1 rfl
  have A1_115 := (eh1.2.1 115 (by decide)).trans A0_115
  have A1_121 := (eh1.2.1 121 (by decide)).trans A0_121
  have A1_141 := eh1.1
  have n1 := eh1.2.2.1.trans n0
  have z1 := eh1.2.2.2.trans z0
  clear G0 n0 z0 A0_115 A0_121 A0_141 eh1
  refine xi_iload (pc' := 211) (x := 0) kc_38_209 rfl rfl ?_
  refine xi_ift (pc' := 221) kc_38_211 rfl rfl ?_
  refine xi_return kc_38_221 mr_38 ?_
  exact kk y0 y1 y2 y3 v8 y5 hh1 (by first | omega | decide) (by first | omega | decide) (by first | omega | decide) (by first | omega | decide) (by first | omega | decide) (by first | omega | decide) (by first | omega | decide) (by first | omega | decide) (by first | omega | decide) (by first | omega | decide) (by first | omega | decide) (by first | omega | decide) G1 A1_115 A1_121 A1_141 n1 z1
set_option maxHeartbeats 8000000 in
set_option maxRecDepth 20000 in
theorem hb_room5 {J : xe_J} {ov : List (List Int32)} {d N Z : Nat} (hJ : ∀ d mj as h, mj ≠ xe_loff → J d mj as h = none) {Q : Option Value → xe_H → Prop} {hr w0 w1 w2 w3 w4 w5 y0 y1 y2 y3 y4 y5 : Int32} {h : xe_H} (h_0 : 0 ≤ y0.toInt) (h_1 : 0 ≤ y1.toInt) (h_2 : 0 ≤ y2.toInt) (h_3 : 0 ≤ y3.toInt) (h_4 : 0 ≤ y4.toInt) (h_5 : 0 ≤ y5.toInt) (h_6 : y0.toInt ≤ 880) (h_7 : y1.toInt ≤ 880) (h_8 : y2.toInt ≤ 880) (h_9 : y3.toInt ≤ 880) (h_10 : y4.toInt ≤ 880) (h_11 : y5.toInt ≤ 880) (h_12 : 0 ≤ hr.toInt) (h_13 : hr.toInt ≤ 599) (G0 : xg [0, 64, 115, 121, 141] h) (A0_115 : h[115]? = some (.inr (12, [.int 0, .int hr, .ref 116, .ref 117, .ref 118, .ref 119, .ref 120, .ref 121, .ref 122, .ref 123, .ref 124, .ref 125, .ref 126, .ref 127, .ref 128, .ref 129, .int 4, .ref 130, .int 0, .ref 131, .ref 132, .ref 133, .ref 134, .int 0, .ref 135, .ref 136, .ref 137, .ref 138, .ref 139, .ref 140, .ref 141, .ref 142, .int 5, .int 0, .int 0, .ref 143, .ref 144, .ref 145, .ref 146, .ref 147, .ref 148, .int 0, .ref 149, .ref 150, .ref 151, .int 0, .ref 152, .ref 153, .ref 154, .ref 155, .ref 156, .ref 157, .ref 158, .ref 159, .int 0, .ref 160, .int 0, .ref 161, .ref 162, .ref 163, .ref 164, .int 0, .ref 165, .ref 166]))) (A0_121 : h[121]? = some (.inl (0, .inl ([w0, w1, w2, w3, w4, w5])))) (A0_141 : h[141]? = some (.inl (0, .inl ([y0, y1, y2, y3, y4, y5])))) (n0 : h.length = N) (z0 : xe_sz h = Z) (kk : ∀ (y0_ y1_ y2_ y3_ y4_ y5_ : Int32) (h1 : xe_H), 0 ≤ y0_.toInt → 0 ≤ y1_.toInt → 0 ≤ y2_.toInt → 0 ≤ y3_.toInt → 0 ≤ y4_.toInt → 0 ≤ y5_.toInt → y0_.toInt ≤ 880 → y1_.toInt ≤ 880 → y2_.toInt ≤ 880 → y3_.toInt ≤ 880 → y4_.toInt ≤ 880 → y5_.toInt ≤ 880 → xg [0, 64, 115, 121, 141] h1 → h1[115]? = some (.inr (12, [.int 0, .int hr, .ref 116, .ref 117, .ref 118, .ref 119, .ref 120, .ref 121, .ref 122, .ref 123, .ref 124, .ref 125, .ref 126, .ref 127, .ref 128, .ref 129, .int 4, .ref 130, .int 0, .ref 131, .ref 132, .ref 133, .ref 134, .int 0, .ref 135, .ref 136, .ref 137, .ref 138, .ref 139, .ref 140, .ref 141, .ref 142, .int 5, .int 0, .int 0, .ref 143, .ref 144, .ref 145, .ref 146, .ref 147, .ref 148, .int 0, .ref 149, .ref 150, .ref 151, .int 0, .ref 152, .ref 153, .ref 154, .ref 155, .ref 156, .ref 157, .ref 158, .ref 159, .int 0, .ref 160, .int 0, .ref 161, .ref 162, .ref 163, .ref 164, .int 0, .ref 165, .ref 166])) → h1[121]? = some (.inl (0, .inl ([w0, w1, w2, w3, w4, w5]))) → h1[141]? = some (.inl (0, .inl ([y0_, y1_, y2_, y3_, y4_, y5_]))) → h1.length = N → xe_sz h1 = Z → Q (none) h1) : xw J ov (d + 4) 38 (0, [(0, .ref 115), (1, .int 5), (2, .int 0), (3, .int 1), (4, .int hr)], [], h) Q := by
  refine xi_aload_n (pc' := 1) (x := 115) kc_38_0 rfl rfl ?_
  refine xi_getfield (pc' := 4) (v := .ref 141) kc_38_1 rfl rfl rfl A0_115 rfl ?_
  refine xi_iload_n (pc' := 5) (x := 5) kc_38_4 rfl rfl ?_
  refine xi_iaload (pc' := 6) (v := y5) kc_38_5 rfl A0_141 (by decide) rfl (xi_in (n := 6) (by decide) (by decide)) rfl ?_
  refine xi_aload_n (pc' := 7) (x := 115) kc_38_6 rfl rfl ?_
  refine xi_getfield (pc' := 10) (v := .ref 122) kc_38_7 rfl rfl rfl A0_115 rfl ?_
  refine xi_bipush (pc' := 12) (v := 24) kc_38_10 rfl rfl ?_
  refine xi_iload_n (pc' := 13) (x := 5) kc_38_12 rfl rfl ?_
  refine xi_imul (pc' := 14) (v := 120) kc_38_13 rfl rfl ?_
  refine xi_iload (pc' := 16) (x := hr) kc_38_14 rfl rfl ?_
  refine xi_bipush (pc' := 18) (v := 24) kc_38_16 rfl rfl ?_
  obtain ⟨v1, ev1⟩ : ∃ q : Int32, hr - hr / 24 * 24 = q := ⟨_, rfl⟩
  have dv1 : 0 ≤ v1.toInt ∧ v1.toInt < 24 := by rw [← ev1]; exact xz_rem (X := hr.toInt) (Y := 24) rfl (by decide) (by omega) (by decide)
  refine xi_irem (pc' := 19) (v := v1) kc_38_18 rfl ev1 (by decide) ?_
  obtain ⟨v2, ev2⟩ : ∃ q : Int32, 120 + v1 = q := ⟨_, rfl⟩
  have zv2 : v2.toInt = (v1.toInt + 120) := by rw [← ev2]; exact (xz_add (X := 120) (Y := v1.toInt) (by decide) rfl (by omega) (by omega)).trans (by omega)
  refine xi_iadd (pc' := 20) (v := v2) kc_38_19 rfl ev2 ?_
  refine xi_iaload (pc' := 21) (v := 0) kc_38_20 rfl (G0 122 _ rfl hl_122) (by decide) rfl (xi_in (by rw [zv2]; omega) (by rw [zv2]; simp only [List.length_replicate]; omega)) (xa_rep (by rw [zv2]; omega) (by rw [zv2]; omega)) ?_
  obtain ⟨v3, ev3⟩ : ∃ q : Int32, y5 + 0 = q := ⟨_, rfl⟩
  have zv3 : v3.toInt = y5.toInt := by rw [← ev3]; exact (xz_add (X := y5.toInt) (Y := 0) rfl (by decide) (by omega) (by omega)).trans (by omega)
  refine xi_iadd (pc' := 22) (v := v3) kc_38_21 rfl ev3 ?_
  refine xi_istore (pc' := 24) (lv' := [(5, .int v3), (0, .ref 115), (1, .int 5), (2, .int 0), (3, .int 1), (4, .int hr)]) kc_38_22 rfl rfl (xm_lt ml_38 rfl) ?_
  refine xi_iconst (pc' := 25) (v := 0) kc_38_24 rfl rfl ?_
  refine xi_istore (pc' := 27) (lv' := [(6, .int 0), (5, .int v3), (0, .ref 115), (1, .int 5), (2, .int 0), (3, .int 1), (4, .int hr)]) kc_38_25 rfl rfl (xm_lt ml_38 rfl) ?_
  refine xi_iload (pc' := 29) (x := 0) kc_38_27 rfl rfl ?_
  refine xi_aload_n (pc' := 30) (x := 115) kc_38_29 rfl rfl ?_
  refine xi_getfield (pc' := 33) (v := .int 0) kc_38_30 rfl rfl rfl A0_115 rfl ?_
  refine xi_cmt (pc' := 93) kc_38_33 rfl rfl ?_
  refine xi_iload (pc' := 95) (x := v3) kc_38_93 rfl rfl ?_
  refine xi_static (mj := 40) (as := [.int v3]) (st1 := []) (lv0 := [(0, .int v3)]) kc_38_95 rfl rfl (Nat.le_of_ble_eq_true rfl) rfl rfl (Nat.le_of_ble_eq_true rfl) (hJ _ _ _ _ (by decide)) (xm_le ml_40 rfl) rfl ?_
  refine xi_iload_n (pc' := 1) (x := v3) kc_40_0 rfl rfl ?_
  refine xi_ift (pc' := 8) kc_40_1 rfl (xc_ge_t (X := y5.toInt) (Y := 0) zv3 (by decide) (by omega)) ?_
  refine xi_iload_n (pc' := 9) (x := v3) kc_40_8 rfl rfl ?_
  refine xi_ldc (pc' := 11) (v := 99999) kc_40_9 rfl rfl ?_
  refine xi_cmt (pc' := 19) kc_40_11 rfl (xc_le_t (X := y5.toInt) (Y := 99999) zv3 (by decide) (by omega)) ?_
  refine xi_iload_n (pc' := 20) (x := v3) kc_40_19 rfl rfl ?_
  refine xi_ireturn kc_40_20 mr_40 rfl ?_
  show xw J ov (d + 4) 38 (98, [(6, .int 0), (5, .int v3), (0, .ref 115), (1, .int 5), (2, .int 0), (3, .int 1), (4, .int hr)], [.int v3], h) _
  refine xi_istore (pc' := 100) (lv' := [(5, .int v3), (6, .int 0), (0, .ref 115), (1, .int 5), (2, .int 0), (3, .int 1), (4, .int hr)]) kc_38_98 rfl rfl (xm_lt ml_38 rfl) ?_
  refine xi_aload_n (pc' := 101) (x := 115) kc_38_100 rfl rfl ?_
  refine xi_getfield (pc' := 104) (v := .ref 116) kc_38_101 rfl rfl rfl A0_115 rfl ?_
  refine xi_iload_n (pc' := 105) (x := 5) kc_38_104 rfl rfl ?_
  refine xi_iaload (pc' := 106) (v := 40) kc_38_105 rfl (G0 116 _ rfl hl_116) (by decide) rfl (xi_in (n := 6) (by decide) (by decide)) rfl ?_
  refine xi_aload_n (pc' := 107) (x := 115) kc_38_106 rfl rfl ?_
  refine xi_getfield (pc' := 110) (v := .int 5) kc_38_107 rfl rfl rfl A0_115 rfl ?_
  refine xi_static (mj := 23) (as := [.int 5]) (st1 := [.int 40]) (lv0 := [(0, .int 5)]) kc_38_110 rfl rfl (Nat.le_of_ble_eq_true rfl) rfl rfl (Nat.le_of_ble_eq_true rfl) (hJ _ _ _ _ (by decide)) (xm_le ml_23 rfl) rfl ?_
  refine xi_iload_n (pc' := 1) (x := 5) kc_23_0 rfl rfl ?_
  refine xi_iff (pc' := 4) kc_23_1 rfl rfl ?_
  refine xi_iconst (pc' := 5) (v := 5) kc_23_4 rfl rfl ?_
  refine xi_iload_n (pc' := 6) (x := 5) kc_23_5 rfl rfl ?_
  refine xi_iconst (pc' := 7) (v := 2) kc_23_6 rfl rfl ?_
  refine xi_idiv (pc' := 8) (v := 2) kc_23_7 rfl rfl (by decide) ?_
  refine xi_iadd (pc' := 9) (v := 7) kc_23_8 rfl rfl ?_
  refine xi_iload_n (pc' := 10) (x := 5) kc_23_9 rfl rfl ?_
  refine xi_iload_n (pc' := 11) (x := 5) kc_23_10 rfl rfl ?_
  refine xi_imul (pc' := 12) (v := 25) kc_23_11 rfl rfl ?_
  refine xi_bipush (pc' := 14) (v := 40) kc_23_12 rfl rfl ?_
  refine xi_idiv (pc' := 15) (v := 0) kc_23_14 rfl rfl (by decide) ?_
  refine xi_iadd (pc' := 16) (v := 7) kc_23_15 rfl rfl ?_
  refine xi_ireturn kc_23_16 mr_23 rfl ?_
  show xw J ov (d + 4) 38 (113, [(5, .int v3), (6, .int 0), (0, .ref 115), (1, .int 5), (2, .int 0), (3, .int 1), (4, .int hr)], [.int 7, .int 40], h) _
  refine xi_imul (pc' := 114) (v := 280) kc_38_113 rfl rfl ?_
  refine xi_iconst (pc' := 115) (v := 2) kc_38_114 rfl rfl ?_
  refine xi_idiv (pc' := 116) (v := 140) kc_38_115 rfl rfl (by decide) ?_
  refine xi_istore (pc' := 118) (lv' := [(6, .int 140), (5, .int v3), (0, .ref 115), (1, .int 5), (2, .int 0), (3, .int 1), (4, .int hr)]) kc_38_116 rfl rfl (xm_lt ml_38 rfl) ?_
  refine xi_iload (pc' := 120) (x := v3) kc_38_118 rfl rfl ?_
  refine xi_iload (pc' := 122) (x := v3) kc_38_120 rfl rfl ?_
  refine xi_iload (pc' := 124) (x := 140) kc_38_122 rfl rfl ?_
  obtain ⟨v4, ev4⟩ : ∃ q : Int32, v3 - 140 = q := ⟨_, rfl⟩
  have zv4 : v4.toInt = (y5.toInt + (-140)) := by rw [← ev4]; exact (xz_sub (X := y5.toInt) (Y := 140) zv3 (by decide) (by omega) (by omega)).trans (by omega)
  refine xi_isub (pc' := 125) (v := v4) kc_38_124 rfl ev4 ?_
  refine xi_aload_n (pc' := 126) (x := 115) kc_38_125 rfl rfl ?_
  refine xi_getfield (pc' := 129) (v := .ref 118) kc_38_126 rfl rfl rfl A0_115 rfl ?_
  refine xi_iload_n (pc' := 130) (x := 5) kc_38_129 rfl rfl ?_
  refine xi_iaload (pc' := 131) (v := 10) kc_38_130 rfl (G0 118 _ rfl hl_118) (by decide) rfl (xi_in (n := 6) (by decide) (by decide)) rfl ?_
  refine xi_aload_n (pc' := 132) (x := 115) kc_38_131 rfl rfl ?_
  refine xi_getfield (pc' := 135) (v := .ref 120) kc_38_132 rfl rfl rfl A0_115 rfl ?_
  refine xi_iload_n (pc' := 136) (x := 5) kc_38_135 rfl rfl ?_
  refine xi_iaload (pc' := 137) (v := 0) kc_38_136 rfl (G0 120 _ rfl hl_120) (by decide) rfl (xi_in (n := 6) (by decide) (by decide)) rfl ?_
  refine xi_iconst (pc' := 138) (v := 1) kc_38_137 rfl rfl ?_
  refine xi_cmt (pc' := 150) kc_38_138 rfl rfl ?_
  refine xi_iconst (pc' := 151) (v := 0) kc_38_150 rfl rfl ?_
  refine xi_iadd (pc' := 152) (v := 10) kc_38_151 rfl rfl ?_
  obtain ⟨v5, ev5⟩ : ∃ q : Int32, v4 * 10 = q := ⟨_, rfl⟩
  have zv5 : v5.toInt = ((10) * y5.toInt + (-1400)) := by rw [← ev5]; exact (xz_mul (X := (y5.toInt + (-140))) (Y := 10) zv4 (by decide) (by omega) (by omega)).trans (by omega)
  refine xi_imul (pc' := 153) (v := v5) kc_38_152 rfl ev5 ?_
  refine xi_bipush (pc' := 155) (v := 100) kc_38_153 rfl rfl ?_
  obtain ⟨v6, ev6⟩ : ∃ q : Int32, v5 / 100 = q := ⟨_, rfl⟩
  have dv6 : 100 * v6.toInt ≤ ((10) * y5.toInt + (-1400)) + 99 ∧ ((10) * y5.toInt + (-1400)) ≤ 100 * v6.toInt + 99 := by rw [← ev6]; exact xz_div (X := ((10) * y5.toInt + (-1400))) (Y := 100) zv5 (by decide) (by decide)
  have bv6 : -15 ≤ v6.toInt ∧ v6.toInt ≤ 75 := by omega
  refine xi_idiv (pc' := 156) (v := v6) kc_38_155 rfl ev6 (by decide) ?_
  obtain ⟨v7, ev7⟩ : ∃ q : Int32, v3 - v6 = q := ⟨_, rfl⟩
  have zv7 : v7.toInt = (y5.toInt + (-1) * v6.toInt) := by rw [← ev7]; exact (xz_sub (X := y5.toInt) (Y := v6.toInt) zv3 rfl (by omega) (by omega)).trans (by omega)
  have bv7 : 0 ≤ v7.toInt ∧ v7.toInt ≤ 880 := by omega
  refine xi_isub (pc' := 157) (v := v7) kc_38_156 rfl ev7 ?_
  refine xi_static (mj := 40) (as := [.int v7]) (st1 := []) (lv0 := [(0, .int v7)]) kc_38_157 rfl rfl (Nat.le_of_ble_eq_true rfl) rfl rfl (Nat.le_of_ble_eq_true rfl) (hJ _ _ _ _ (by decide)) (xm_le ml_40 rfl) rfl ?_
  refine xi_iload_n (pc' := 1) (x := v7) kc_40_0 rfl rfl ?_
  refine xi_ift (pc' := 8) kc_40_1 rfl (xc_ge_t (X := v7.toInt) (Y := 0) rfl (by decide) (by omega)) ?_
  refine xi_iload_n (pc' := 9) (x := v7) kc_40_8 rfl rfl ?_
  refine xi_ldc (pc' := 11) (v := 99999) kc_40_9 rfl rfl ?_
  refine xi_cmt (pc' := 19) kc_40_11 rfl (xc_le_t (X := v7.toInt) (Y := 99999) rfl (by decide) (by omega)) ?_
  refine xi_iload_n (pc' := 20) (x := v7) kc_40_19 rfl rfl ?_
  refine xi_ireturn kc_40_20 mr_40 rfl ?_
  show xw J ov (d + 4) 38 (160, [(6, .int 140), (5, .int v3), (0, .ref 115), (1, .int 5), (2, .int 0), (3, .int 1), (4, .int hr)], [.int v7], h) _
  refine xi_istore (pc' := 162) (lv' := [(5, .int v7), (6, .int 140), (0, .ref 115), (1, .int 5), (2, .int 0), (3, .int 1), (4, .int hr)]) kc_38_160 rfl rfl (xm_lt ml_38 rfl) ?_
  refine xi_aload_n (pc' := 163) (x := 115) kc_38_162 rfl rfl ?_
  refine xi_getfield (pc' := 166) (v := .ref 116) kc_38_163 rfl rfl rfl A0_115 rfl ?_
  refine xi_iload_n (pc' := 167) (x := 5) kc_38_166 rfl rfl ?_
  refine xi_iaload (pc' := 168) (v := 40) kc_38_167 rfl (G0 116 _ rfl hl_116) (by decide) rfl (xi_in (n := 6) (by decide) (by decide)) rfl ?_
  refine xi_aload_n (pc' := 169) (x := 115) kc_38_168 rfl rfl ?_
  refine xi_getfield (pc' := 172) (v := .ref 117) kc_38_169 rfl rfl rfl A0_115 rfl ?_
  refine xi_iload_n (pc' := 173) (x := 5) kc_38_172 rfl rfl ?_
  refine xi_iaload (pc' := 174) (v := 18) kc_38_173 rfl (G0 117 _ rfl hl_117) (by decide) rfl (xi_in (n := 6) (by decide) (by decide)) rfl ?_
  refine xi_static (mj := 23) (as := [.int 18]) (st1 := [.int 40]) (lv0 := [(0, .int 18)]) kc_38_174 rfl rfl (Nat.le_of_ble_eq_true rfl) rfl rfl (Nat.le_of_ble_eq_true rfl) (hJ _ _ _ _ (by decide)) (xm_le ml_23 rfl) rfl ?_
  refine xi_iload_n (pc' := 1) (x := 18) kc_23_0 rfl rfl ?_
  refine xi_iff (pc' := 4) kc_23_1 rfl rfl ?_
  refine xi_iconst (pc' := 5) (v := 5) kc_23_4 rfl rfl ?_
  refine xi_iload_n (pc' := 6) (x := 18) kc_23_5 rfl rfl ?_
  refine xi_iconst (pc' := 7) (v := 2) kc_23_6 rfl rfl ?_
  refine xi_idiv (pc' := 8) (v := 9) kc_23_7 rfl rfl (by decide) ?_
  refine xi_iadd (pc' := 9) (v := 14) kc_23_8 rfl rfl ?_
  refine xi_iload_n (pc' := 10) (x := 18) kc_23_9 rfl rfl ?_
  refine xi_iload_n (pc' := 11) (x := 18) kc_23_10 rfl rfl ?_
  refine xi_imul (pc' := 12) (v := 324) kc_23_11 rfl rfl ?_
  refine xi_bipush (pc' := 14) (v := 40) kc_23_12 rfl rfl ?_
  refine xi_idiv (pc' := 15) (v := 8) kc_23_14 rfl rfl (by decide) ?_
  refine xi_iadd (pc' := 16) (v := 22) kc_23_15 rfl rfl ?_
  refine xi_ireturn kc_23_16 mr_23 rfl ?_
  show xw J ov (d + 4) 38 (177, [(5, .int v7), (6, .int 140), (0, .ref 115), (1, .int 5), (2, .int 0), (3, .int 1), (4, .int hr)], [.int 22, .int 40], h) _
  refine xi_imul (pc' := 178) (v := 880) kc_38_177 rfl rfl ?_
  refine xi_istore (pc' := 180) (lv' := [(7, .int 880), (5, .int v7), (6, .int 140), (0, .ref 115), (1, .int 5), (2, .int 0), (3, .int 1), (4, .int hr)]) kc_38_178 rfl rfl (xm_lt ml_38 rfl) ?_
  refine xi_iload (pc' := 182) (x := v7) kc_38_180 rfl rfl ?_
  refine xi_iload (pc' := 184) (x := 880) kc_38_182 rfl rfl ?_
  refine xi_cmt (pc' := 195) kc_38_184 rfl (xc_le_t (X := v7.toInt) (Y := 880) rfl (by decide) (by omega)) ?_
  refine xi_iconst (pc' := 196) (v := 0) kc_38_195 rfl rfl ?_
  refine xi_istore (pc' := 198) (lv' := [(8, .int 0), (7, .int 880), (5, .int v7), (6, .int 140), (0, .ref 115), (1, .int 5), (2, .int 0), (3, .int 1), (4, .int hr)]) kc_38_196 rfl rfl (xm_lt ml_38 rfl) ?_
  refine xi_aload_n (pc' := 199) (x := 115) kc_38_198 rfl rfl ?_
  refine xi_getfield (pc' := 202) (v := .ref 141) kc_38_199 rfl rfl rfl A0_115 rfl ?_
  refine xi_iload_n (pc' := 203) (x := 5) kc_38_202 rfl rfl ?_
  refine xi_iload (pc' := 205) (x := v7) kc_38_203 rfl rfl ?_
  refine xi_iload (pc' := 207) (x := 0) kc_38_205 rfl rfl ?_
  obtain ⟨v8, ev8⟩ : ∃ q : Int32, v7 - 0 = q := ⟨_, rfl⟩
  have zv8 : v8.toInt = v7.toInt := by rw [← ev8]; exact (xz_sub (X := v7.toInt) (Y := 0) rfl (by decide) (by omega) (by omega)).trans (by omega)
  refine xi_isub (pc' := 208) (v := v8) kc_38_207 rfl ev8 ?_
  refine xi_iastore (pc' := 209) (x' := [y0, y1, y2, y3, y4, v8]) kc_38_208 rfl A0_141 rfl (xi_in (n := 6) (by decide) (by decide)) rfl (fun hh1 eh1 => ?_)
  have G1 := xg_skip G0 eh1 rfl
  have A1_115 := (eh1.2.1 115 (by decide)).trans A0_115
  have A1_121 := (eh1.2.1 121 (by decide)).trans A0_121
  have A1_141 := eh1.1
  have n1 := eh1.2.2.1.trans n0
  have z1 := eh1.2.2.2.trans z0
  clear G0 n0 z0 A0_115 A0_121 A0_141 eh1
  refine xi_iload (pc' := 211) (x := 0) kc_38_209 rfl rfl ?_
  refine xi_ift (pc' := 221) kc_38_211 rfl rfl ?_
  refine xi_return kc_38_221 mr_38 ?_
  exact kk y0 y1 y2 y3 y4 v8 hh1 (by first | omega | decide) (by first | omega | decide) (by first | omega | decide) (by first | omega | decide) (by first | omega | decide) (by first | omega | decide) (by first | omega | decide) (by first | omega | decide) (by first | omega | decide) (by first | omega | decide) (by first | omega | decide) (by first | omega | decide) G1 A1_115 A1_121 A1_141 n1 z1
set_option maxHeartbeats 8000000 in
set_option maxRecDepth 20000 in
theorem hb_hour {J : xe_J} {ov : List (List Int32)} {d N Z : Nat} (hJ : ∀ d mj as h, mj ≠ xe_loff → J d mj as h = none) {Q : Option Value → xe_H → Prop} {hr w0 w1 w2 w3 w4 w5 y0 y1 y2 y3 y4 y5 : Int32} {h : xe_H} (h_0 : 0 ≤ y0.toInt) (h_1 : 0 ≤ y1.toInt) (h_2 : 0 ≤ y2.toInt) (h_3 : 0 ≤ y3.toInt) (h_4 : 0 ≤ y4.toInt) (h_5 : 0 ≤ y5.toInt) (h_6 : y0.toInt ≤ 880) (h_7 : y1.toInt ≤ 880) (h_8 : y2.toInt ≤ 880) (h_9 : y3.toInt ≤ 880) (h_10 : y4.toInt ≤ 880) (h_11 : y5.toInt ≤ 880) (h_12 : 0 ≤ hr.toInt) (h_13 : hr.toInt ≤ 599) (G0 : xg [0, 64, 115, 121, 141] h) (A0_115 : h[115]? = some (.inr (12, [.int 0, .int hr, .ref 116, .ref 117, .ref 118, .ref 119, .ref 120, .ref 121, .ref 122, .ref 123, .ref 124, .ref 125, .ref 126, .ref 127, .ref 128, .ref 129, .int 4, .ref 130, .int 0, .ref 131, .ref 132, .ref 133, .ref 134, .int 0, .ref 135, .ref 136, .ref 137, .ref 138, .ref 139, .ref 140, .ref 141, .ref 142, .int 5, .int 0, .int 0, .ref 143, .ref 144, .ref 145, .ref 146, .ref 147, .ref 148, .int 0, .ref 149, .ref 150, .ref 151, .int 0, .ref 152, .ref 153, .ref 154, .ref 155, .ref 156, .ref 157, .ref 158, .ref 159, .int 0, .ref 160, .int 0, .ref 161, .ref 162, .ref 163, .ref 164, .int 0, .ref 165, .ref 166]))) (A0_121 : h[121]? = some (.inl (0, .inl ([w0, w1, w2, w3, w4, w5])))) (A0_141 : h[141]? = some (.inl (0, .inl ([y0, y1, y2, y3, y4, y5])))) (n0 : h.length = N) (z0 : xe_sz h = Z) (kk : ∀ (y0_ y1_ y2_ y3_ y4_ y5_ : Int32) (h1 : xe_H), 0 ≤ y0_.toInt → 0 ≤ y1_.toInt → 0 ≤ y2_.toInt → 0 ≤ y3_.toInt → 0 ≤ y4_.toInt → 0 ≤ y5_.toInt → y0_.toInt ≤ 880 → y1_.toInt ≤ 880 → y2_.toInt ≤ 880 → y3_.toInt ≤ 880 → y4_.toInt ≤ 880 → y5_.toInt ≤ 880 → xg [0, 64, 115, 121, 141] h1 → h1[115]? = some (.inr (12, [.int 0, .int hr, .ref 116, .ref 117, .ref 118, .ref 119, .ref 120, .ref 121, .ref 122, .ref 123, .ref 124, .ref 125, .ref 126, .ref 127, .ref 128, .ref 129, .int 4, .ref 130, .int 0, .ref 131, .ref 132, .ref 133, .ref 134, .int 0, .ref 135, .ref 136, .ref 137, .ref 138, .ref 139, .ref 140, .ref 141, .ref 142, .int 5, .int 0, .int 0, .ref 143, .ref 144, .ref 145, .ref 146, .ref 147, .ref 148, .int 0, .ref 149, .ref 150, .ref 151, .int 0, .ref 152, .ref 153, .ref 154, .ref 155, .ref 156, .ref 157, .ref 158, .ref 159, .int 0, .ref 160, .int 0, .ref 161, .ref 162, .ref 163, .ref 164, .int 0, .ref 165, .ref 166])) → h1[121]? = some (.inl (0, .inl ([w0, w1, w2, w3, w4, w5]))) → h1[141]? = some (.inl (0, .inl ([y0_, y1_, y2_, y3_, y4_, y5_]))) → h1.length = N → xe_sz h1 = Z → Q (none) h1) : xw J ov (d + 8) 37 (0, [(0, .ref 115), (1, .int 0), (2, .int 1), (3, .int hr)], [], h) Q := by
  refine xi_iconst (pc' := 1) (v := 0) kc_37_0 rfl rfl ?_
  refine xi_istore (pc' := 3) (lv' := [(4, .int 0), (0, .ref 115), (1, .int 0), (2, .int 1), (3, .int hr)]) kc_37_1 rfl rfl (xm_lt ml_37 rfl) ?_
  refine xi_iload (pc' := 5) (x := 0) kc_37_3 rfl rfl ?_
  refine xi_bipush (pc' := 7) (v := 6) kc_37_5 rfl rfl ?_
  refine xi_cmf (pc' := 10) kc_37_7 rfl rfl ?_
  refine xi_aload_n (pc' := 11) (x := 115) kc_37_10 rfl rfl ?_
  refine xi_iload (pc' := 13) (x := 0) kc_37_11 rfl rfl ?_
  refine xi_iload_n (pc' := 14) (x := 0) kc_37_13 rfl rfl ?_
  refine xi_iload_n (pc' := 15) (x := 1) kc_37_14 rfl rfl ?_
  refine xi_iload_n (pc' := 16) (x := hr) kc_37_15 rfl rfl ?_
  refine xi_virtual (mj := 38) (as := [.int 0, .int 0, .int 1, .int hr]) (st1 := []) (lv0 := [(0, .ref 115), (1, .int 0), (2, .int 0), (3, .int 1), (4, .int hr)]) kc_37_16 rfl rfl rfl rfl rfl A0_115 (Nat.le_of_ble_eq_true rfl) (hJ _ _ _ _ (by decide)) (xm_le ml_38 rfl) rfl ?_
  refine hb_room0 hJ (by first | omega | decide) (by first | omega | decide) (by first | omega | decide) (by first | omega | decide) (by first | omega | decide) (by first | omega | decide) (by first | omega | decide) (by first | omega | decide) (by first | omega | decide) (by first | omega | decide) (by first | omega | decide) (by first | omega | decide) (by first | omega | decide) (by first | omega | decide) G0 A0_115 A0_121 A0_141 n0 z0 (fun y0_1 y1_1 y2_1 y3_1 y4_1 y5_1 hh1 q1_0 q1_1 q1_2 q1_3 q1_4 q1_5 q1_6 q1_7 q1_8 q1_9 q1_10 q1_11 G1 A1_115 A1_121 A1_141 n1 z1 => ?_)
  show xw J ov (d + 8) 37 (19, [(4, .int 0), (0, .ref 115), (1, .int 0), (2, .int 1), (3, .int hr)], [], hh1) _
  refine xi_iinc (pc' := 22) (x := 0) (v := 1) (lv' := [(4, .int 1), (0, .ref 115), (1, .int 0), (2, .int 1), (3, .int hr)]) kc_37_19 rfl rfl rfl rfl (xm_lt ml_37 rfl) ?_
  refine xi_goto (pc' := 3) kc_37_22 rfl ?_
  refine xi_iload (pc' := 5) (x := 1) kc_37_3 rfl rfl ?_
  refine xi_bipush (pc' := 7) (v := 6) kc_37_5 rfl rfl ?_
  refine xi_cmf (pc' := 10) kc_37_7 rfl rfl ?_
  refine xi_aload_n (pc' := 11) (x := 115) kc_37_10 rfl rfl ?_
  refine xi_iload (pc' := 13) (x := 1) kc_37_11 rfl rfl ?_
  refine xi_iload_n (pc' := 14) (x := 0) kc_37_13 rfl rfl ?_
  refine xi_iload_n (pc' := 15) (x := 1) kc_37_14 rfl rfl ?_
  refine xi_iload_n (pc' := 16) (x := hr) kc_37_15 rfl rfl ?_
  refine xi_virtual (mj := 38) (as := [.int 1, .int 0, .int 1, .int hr]) (st1 := []) (lv0 := [(0, .ref 115), (1, .int 1), (2, .int 0), (3, .int 1), (4, .int hr)]) kc_37_16 rfl rfl rfl rfl rfl A1_115 (Nat.le_of_ble_eq_true rfl) (hJ _ _ _ _ (by decide)) (xm_le ml_38 rfl) rfl ?_
  refine hb_room1 hJ (by first | omega | decide) (by first | omega | decide) (by first | omega | decide) (by first | omega | decide) (by first | omega | decide) (by first | omega | decide) (by first | omega | decide) (by first | omega | decide) (by first | omega | decide) (by first | omega | decide) (by first | omega | decide) (by first | omega | decide) (by first | omega | decide) (by first | omega | decide) G1 A1_115 A1_121 A1_141 n1 z1 (fun y0_2 y1_2 y2_2 y3_2 y4_2 y5_2 hh2 q2_0 q2_1 q2_2 q2_3 q2_4 q2_5 q2_6 q2_7 q2_8 q2_9 q2_10 q2_11 G2 A2_115 A2_121 A2_141 n2 z2 => ?_)
  show xw J ov (d + 8) 37 (19, [(4, .int 1), (0, .ref 115), (1, .int 0), (2, .int 1), (3, .int hr)], [], hh2) _
  refine xi_iinc (pc' := 22) (x := 1) (v := 2) (lv' := [(4, .int 2), (0, .ref 115), (1, .int 0), (2, .int 1), (3, .int hr)]) kc_37_19 rfl rfl rfl rfl (xm_lt ml_37 rfl) ?_
  refine xi_goto (pc' := 3) kc_37_22 rfl ?_
  refine xi_iload (pc' := 5) (x := 2) kc_37_3 rfl rfl ?_
  refine xi_bipush (pc' := 7) (v := 6) kc_37_5 rfl rfl ?_
  refine xi_cmf (pc' := 10) kc_37_7 rfl rfl ?_
  refine xi_aload_n (pc' := 11) (x := 115) kc_37_10 rfl rfl ?_
  refine xi_iload (pc' := 13) (x := 2) kc_37_11 rfl rfl ?_
  refine xi_iload_n (pc' := 14) (x := 0) kc_37_13 rfl rfl ?_
  refine xi_iload_n (pc' := 15) (x := 1) kc_37_14 rfl rfl ?_
  refine xi_iload_n (pc' := 16) (x := hr) kc_37_15 rfl rfl ?_
  refine xi_virtual (mj := 38) (as := [.int 2, .int 0, .int 1, .int hr]) (st1 := []) (lv0 := [(0, .ref 115), (1, .int 2), (2, .int 0), (3, .int 1), (4, .int hr)]) kc_37_16 rfl rfl rfl rfl rfl A2_115 (Nat.le_of_ble_eq_true rfl) (hJ _ _ _ _ (by decide)) (xm_le ml_38 rfl) rfl ?_
  refine hb_room2 hJ (by first | omega | decide) (by first | omega | decide) (by first | omega | decide) (by first | omega | decide) (by first | omega | decide) (by first | omega | decide) (by first | omega | decide) (by first | omega | decide) (by first | omega | decide) (by first | omega | decide) (by first | omega | decide) (by first | omega | decide) (by first | omega | decide) (by first | omega | decide) G2 A2_115 A2_121 A2_141 n2 z2 (fun y0_3 y1_3 y2_3 y3_3 y4_3 y5_3 hh3 q3_0 q3_1 q3_2 q3_3 q3_4 q3_5 q3_6 q3_7 q3_8 q3_9 q3_10 q3_11 G3 A3_115 A3_121 A3_141 n3 z3 => ?_)
  show xw J ov (d + 8) 37 (19, [(4, .int 2), (0, .ref 115), (1, .int 0), (2, .int 1), (3, .int hr)], [], hh3) _
  refine xi_iinc (pc' := 22) (x := 2) (v := 3) (lv' := [(4, .int 3), (0, .ref 115), (1, .int 0), (2, .int 1), (3, .int hr)]) kc_37_19 rfl rfl rfl rfl (xm_lt ml_37 rfl) ?_
  refine xi_goto (pc' := 3) kc_37_22 rfl ?_
  refine xi_iload (pc' := 5) (x := 3) kc_37_3 rfl rfl ?_
  refine xi_bipush (pc' := 7) (v := 6) kc_37_5 rfl rfl ?_
  refine xi_cmf (pc' := 10) kc_37_7 rfl rfl ?_
  refine xi_aload_n (pc' := 11) (x := 115) kc_37_10 rfl rfl ?_
  refine xi_iload (pc' := 13) (x := 3) kc_37_11 rfl rfl ?_
  refine xi_iload_n (pc' := 14) (x := 0) kc_37_13 rfl rfl ?_
  refine xi_iload_n (pc' := 15) (x := 1) kc_37_14 rfl rfl ?_
  refine xi_iload_n (pc' := 16) (x := hr) kc_37_15 rfl rfl ?_
  refine xi_virtual (mj := 38) (as := [.int 3, .int 0, .int 1, .int hr]) (st1 := []) (lv0 := [(0, .ref 115), (1, .int 3), (2, .int 0), (3, .int 1), (4, .int hr)]) kc_37_16 rfl rfl rfl rfl rfl A3_115 (Nat.le_of_ble_eq_true rfl) (hJ _ _ _ _ (by decide)) (xm_le ml_38 rfl) rfl ?_
  refine hb_room3 hJ (by first | omega | decide) (by first | omega | decide) (by first | omega | decide) (by first | omega | decide) (by first | omega | decide) (by first | omega | decide) (by first | omega | decide) (by first | omega | decide) (by first | omega | decide) (by first | omega | decide) (by first | omega | decide) (by first | omega | decide) (by first | omega | decide) (by first | omega | decide) G3 A3_115 A3_121 A3_141 n3 z3 (fun y0_4 y1_4 y2_4 y3_4 y4_4 y5_4 hh4 q4_0 q4_1 q4_2 q4_3 q4_4 q4_5 q4_6 q4_7 q4_8 q4_9 q4_10 q4_11 G4 A4_115 A4_121 A4_141 n4 z4 => ?_)
  show xw J ov (d + 8) 37 (19, [(4, .int 3), (0, .ref 115), (1, .int 0), (2, .int 1), (3, .int hr)], [], hh4) _
  refine xi_iinc (pc' := 22) (x := 3) (v := 4) (lv' := [(4, .int 4), (0, .ref 115), (1, .int 0), (2, .int 1), (3, .int hr)]) kc_37_19 rfl rfl rfl rfl (xm_lt ml_37 rfl) ?_
  refine xi_goto (pc' := 3) kc_37_22 rfl ?_
  refine xi_iload (pc' := 5) (x := 4) kc_37_3 rfl rfl ?_
  refine xi_bipush (pc' := 7) (v := 6) kc_37_5 rfl rfl ?_
  refine xi_cmf (pc' := 10) kc_37_7 rfl rfl ?_
  refine xi_aload_n (pc' := 11) (x := 115) kc_37_10 rfl rfl ?_
  refine xi_iload (pc' := 13) (x := 4) kc_37_11 rfl rfl ?_
  refine xi_iload_n (pc' := 14) (x := 0) kc_37_13 rfl rfl ?_
  refine xi_iload_n (pc' := 15) (x := 1) kc_37_14 rfl rfl ?_
  refine xi_iload_n (pc' := 16) (x := hr) kc_37_15 rfl rfl ?_
  refine xi_virtual (mj := 38) (as := [.int 4, .int 0, .int 1, .int hr]) (st1 := []) (lv0 := [(0, .ref 115), (1, .int 4), (2, .int 0), (3, .int 1), (4, .int hr)]) kc_37_16 rfl rfl rfl rfl rfl A4_115 (Nat.le_of_ble_eq_true rfl) (hJ _ _ _ _ (by decide)) (xm_le ml_38 rfl) rfl ?_
  refine hb_room4 hJ (by first | omega | decide) (by first | omega | decide) (by first | omega | decide) (by first | omega | decide) (by first | omega | decide) (by first | omega | decide) (by first | omega | decide) (by first | omega | decide) (by first | omega | decide) (by first | omega | decide) (by first | omega | decide) (by first | omega | decide) (by first | omega | decide) (by first | omega | decide) G4 A4_115 A4_121 A4_141 n4 z4 (fun y0_5 y1_5 y2_5 y3_5 y4_5 y5_5 hh5 q5_0 q5_1 q5_2 q5_3 q5_4 q5_5 q5_6 q5_7 q5_8 q5_9 q5_10 q5_11 G5 A5_115 A5_121 A5_141 n5 z5 => ?_)
  show xw J ov (d + 8) 37 (19, [(4, .int 4), (0, .ref 115), (1, .int 0), (2, .int 1), (3, .int hr)], [], hh5) _
  refine xi_iinc (pc' := 22) (x := 4) (v := 5) (lv' := [(4, .int 5), (0, .ref 115), (1, .int 0), (2, .int 1), (3, .int hr)]) kc_37_19 rfl rfl rfl rfl (xm_lt ml_37 rfl) ?_
  refine xi_goto (pc' := 3) kc_37_22 rfl ?_
  refine xi_iload (pc' := 5) (x := 5) kc_37_3 rfl rfl ?_
  refine xi_bipush (pc' := 7) (v := 6) kc_37_5 rfl rfl ?_
  refine xi_cmf (pc' := 10) kc_37_7 rfl rfl ?_
  refine xi_aload_n (pc' := 11) (x := 115) kc_37_10 rfl rfl ?_
  refine xi_iload (pc' := 13) (x := 5) kc_37_11 rfl rfl ?_
  refine xi_iload_n (pc' := 14) (x := 0) kc_37_13 rfl rfl ?_
  refine xi_iload_n (pc' := 15) (x := 1) kc_37_14 rfl rfl ?_
  refine xi_iload_n (pc' := 16) (x := hr) kc_37_15 rfl rfl ?_
  refine xi_virtual (mj := 38) (as := [.int 5, .int 0, .int 1, .int hr]) (st1 := []) (lv0 := [(0, .ref 115), (1, .int 5), (2, .int 0), (3, .int 1), (4, .int hr)]) kc_37_16 rfl rfl rfl rfl rfl A5_115 (Nat.le_of_ble_eq_true rfl) (hJ _ _ _ _ (by decide)) (xm_le ml_38 rfl) rfl ?_
  refine hb_room5 hJ (by first | omega | decide) (by first | omega | decide) (by first | omega | decide) (by first | omega | decide) (by first | omega | decide) (by first | omega | decide) (by first | omega | decide) (by first | omega | decide) (by first | omega | decide) (by first | omega | decide) (by first | omega | decide) (by first | omega | decide) (by first | omega | decide) (by first | omega | decide) G5 A5_115 A5_121 A5_141 n5 z5 (fun y0_6 y1_6 y2_6 y3_6 y4_6 y5_6 hh6 q6_0 q6_1 q6_2 q6_3 q6_4 q6_5 q6_6 q6_7 q6_8 q6_9 q6_10 q6_11 G6 A6_115 A6_121 A6_141 n6 z6 => ?_)
  show xw J ov (d + 8) 37 (19, [(4, .int 5), (0, .ref 115), (1, .int 0), (2, .int 1), (3, .int hr)], [], hh6) _
  refine xi_iinc (pc' := 22) (x := 5) (v := 6) (lv' := [(4, .int 6), (0, .ref 115), (1, .int 0), (2, .int 1), (3, .int hr)]) kc_37_19 rfl rfl rfl rfl (xm_lt ml_37 rfl) ?_
  refine xi_goto (pc' := 3) kc_37_22 rfl ?_
  refine xi_iload (pc' := 5) (x := 6) kc_37_3 rfl rfl ?_
  refine xi_bipush (pc' := 7) (v := 6) kc_37_5 rfl rfl ?_
  refine xi_cmt (pc' := 25) kc_37_7 rfl rfl ?_
  refine xi_iconst (pc' := 26) (v := 0) kc_37_25 rfl rfl ?_
  refine xi_istore (pc' := 28) (lv' := [(4, .int 0), (0, .ref 115), (1, .int 0), (2, .int 1), (3, .int hr)]) kc_37_26 rfl rfl (xm_lt ml_37 rfl) ?_
  refine xi_iload (pc' := 30) (x := 0) kc_37_28 rfl rfl ?_
  refine xi_aload_n (pc' := 31) (x := 115) kc_37_30 rfl rfl ?_
  refine xi_getfield (pc' := 34) (v := .int 0) kc_37_31 rfl rfl rfl A6_115 rfl ?_
  refine xi_cmt (pc' := 154) kc_37_34 rfl rfl ?_
  refine xi_iconst (pc' := 155) (v := 0) kc_37_154 rfl rfl ?_
  refine xi_istore (pc' := 157) (lv' := [(4, .int 0), (0, .ref 115), (1, .int 0), (2, .int 1), (3, .int hr)]) kc_37_155 rfl rfl (xm_lt ml_37 rfl) ?_
  refine xi_iload (pc' := 159) (x := 0) kc_37_157 rfl rfl ?_
  refine xi_bipush (pc' := 161) (v := 12) kc_37_159 rfl rfl ?_
  refine xi_cmf (pc' := 164) kc_37_161 rfl rfl ?_
  refine xi_aload_n (pc' := 165) (x := 115) kc_37_164 rfl rfl ?_
  refine xi_getfield (pc' := 168) (v := .ref 142) kc_37_165 rfl rfl rfl A6_115 rfl ?_
  refine xi_iload (pc' := 170) (x := 0) kc_37_168 rfl rfl ?_
  refine xi_dup2 (pc' := 171) kc_37_170 rfl ⟨rfl, rfl⟩ ?_
  refine xi_iaload (pc' := 172) (v := 0) kc_37_171 rfl (G6 142 _ rfl hl_142) (by decide) rfl (xi_in (n := 12) (by decide) (by decide)) rfl ?_
  refine xi_aload_n (pc' := 173) (x := 115) kc_37_172 rfl rfl ?_
  refine xi_getfield (pc' := 176) (v := .ref 142) kc_37_173 rfl rfl rfl A6_115 rfl ?_
  refine xi_iload (pc' := 178) (x := 0) kc_37_176 rfl rfl ?_
  refine xi_iaload (pc' := 179) (v := 0) kc_37_178 rfl (G6 142 _ rfl hl_142) (by decide) rfl (xi_in (n := 12) (by decide) (by decide)) rfl ?_
  refine xi_aload_n (pc' := 180) (x := 115) kc_37_179 rfl rfl ?_
  refine xi_getfield (pc' := 183) (v := .int 4) kc_37_180 rfl rfl rfl A6_115 rfl ?_
  refine xi_imul (pc' := 184) (v := 0) kc_37_183 rfl rfl ?_
  refine xi_bipush (pc' := 186) (v := 99) kc_37_184 rfl rfl ?_
  refine xi_iadd (pc' := 187) (v := 99) kc_37_186 rfl rfl ?_
  refine xi_bipush (pc' := 189) (v := 100) kc_37_187 rfl rfl ?_
  refine xi_idiv (pc' := 190) (v := 0) kc_37_189 rfl rfl (by decide) ?_
  refine xi_isub (pc' := 191) (v := 0) kc_37_190 rfl rfl ?_
  refine xi_iastore (pc' := 192) (x' := List.replicate 12 0) kc_37_191 rfl (G6 142 _ rfl hl_142) rfl (xi_in (by decide) (by rw [List.length_replicate]; decide)) xa_sr (fun hh7 eh7 => ?_)
  have G7 := xg_keep G6 eh7 hl_142
  have A7_115 := (eh7.2.1 115 (by decide)).trans A6_115
  have A7_121 := (eh7.2.1 121 (by decide)).trans A6_121
  have A7_141 := (eh7.2.1 141 (by decide)).trans A6_141
  have n7 := eh7.2.2.1.trans n6
  have z7 := eh7.2.2.2.trans z6
  clear G6 n6 z6 A6_115 A6_121 A6_141 eh7
  refine xi_iinc (pc' := 195) (x := 0) (v := 1) (lv' := [(4, .int 1), (0, .ref 115), (1, .int 0), (2, .int 1), (3, .int hr)]) kc_37_192 rfl rfl rfl rfl (xm_lt ml_37 rfl) ?_
  refine xi_goto (pc' := 157) kc_37_195 rfl ?_
  refine xi_iload (pc' := 159) (x := 1) kc_37_157 rfl rfl ?_
  refine xi_bipush (pc' := 161) (v := 12) kc_37_159 rfl rfl ?_
  refine xi_cmf (pc' := 164) kc_37_161 rfl rfl ?_
  refine xi_aload_n (pc' := 165) (x := 115) kc_37_164 rfl rfl ?_
  refine xi_getfield (pc' := 168) (v := .ref 142) kc_37_165 rfl rfl rfl A7_115 rfl ?_
  refine xi_iload (pc' := 170) (x := 1) kc_37_168 rfl rfl ?_
  refine xi_dup2 (pc' := 171) kc_37_170 rfl ⟨rfl, rfl⟩ ?_
  refine xi_iaload (pc' := 172) (v := 0) kc_37_171 rfl (G7 142 _ rfl hl_142) (by decide) rfl (xi_in (n := 12) (by decide) (by decide)) rfl ?_
  refine xi_aload_n (pc' := 173) (x := 115) kc_37_172 rfl rfl ?_
  refine xi_getfield (pc' := 176) (v := .ref 142) kc_37_173 rfl rfl rfl A7_115 rfl ?_
  refine xi_iload (pc' := 178) (x := 1) kc_37_176 rfl rfl ?_
  refine xi_iaload (pc' := 179) (v := 0) kc_37_178 rfl (G7 142 _ rfl hl_142) (by decide) rfl (xi_in (n := 12) (by decide) (by decide)) rfl ?_
  refine xi_aload_n (pc' := 180) (x := 115) kc_37_179 rfl rfl ?_
  refine xi_getfield (pc' := 183) (v := .int 4) kc_37_180 rfl rfl rfl A7_115 rfl ?_
  refine xi_imul (pc' := 184) (v := 0) kc_37_183 rfl rfl ?_
  refine xi_bipush (pc' := 186) (v := 99) kc_37_184 rfl rfl ?_
  refine xi_iadd (pc' := 187) (v := 99) kc_37_186 rfl rfl ?_
  refine xi_bipush (pc' := 189) (v := 100) kc_37_187 rfl rfl ?_
  refine xi_idiv (pc' := 190) (v := 0) kc_37_189 rfl rfl (by decide) ?_
  refine xi_isub (pc' := 191) (v := 0) kc_37_190 rfl rfl ?_
  refine xi_iastore (pc' := 192) (x' := List.replicate 12 0) kc_37_191 rfl (G7 142 _ rfl hl_142) rfl (xi_in (by decide) (by rw [List.length_replicate]; decide)) xa_sr (fun hh8 eh8 => ?_)
  have G8 := xg_keep G7 eh8 hl_142
  have A8_115 := (eh8.2.1 115 (by decide)).trans A7_115
  have A8_121 := (eh8.2.1 121 (by decide)).trans A7_121
  have A8_141 := (eh8.2.1 141 (by decide)).trans A7_141
  have n8 := eh8.2.2.1.trans n7
  have z8 := eh8.2.2.2.trans z7
  clear G7 n7 z7 A7_115 A7_121 A7_141 eh8
  refine xi_iinc (pc' := 195) (x := 1) (v := 2) (lv' := [(4, .int 2), (0, .ref 115), (1, .int 0), (2, .int 1), (3, .int hr)]) kc_37_192 rfl rfl rfl rfl (xm_lt ml_37 rfl) ?_
  refine xi_goto (pc' := 157) kc_37_195 rfl ?_
  refine xi_iload (pc' := 159) (x := 2) kc_37_157 rfl rfl ?_
  refine xi_bipush (pc' := 161) (v := 12) kc_37_159 rfl rfl ?_
  refine xi_cmf (pc' := 164) kc_37_161 rfl rfl ?_
  refine xi_aload_n (pc' := 165) (x := 115) kc_37_164 rfl rfl ?_
  refine xi_getfield (pc' := 168) (v := .ref 142) kc_37_165 rfl rfl rfl A8_115 rfl ?_
  refine xi_iload (pc' := 170) (x := 2) kc_37_168 rfl rfl ?_
  refine xi_dup2 (pc' := 171) kc_37_170 rfl ⟨rfl, rfl⟩ ?_
  refine xi_iaload (pc' := 172) (v := 0) kc_37_171 rfl (G8 142 _ rfl hl_142) (by decide) rfl (xi_in (n := 12) (by decide) (by decide)) rfl ?_
  refine xi_aload_n (pc' := 173) (x := 115) kc_37_172 rfl rfl ?_
  refine xi_getfield (pc' := 176) (v := .ref 142) kc_37_173 rfl rfl rfl A8_115 rfl ?_
  refine xi_iload (pc' := 178) (x := 2) kc_37_176 rfl rfl ?_
  refine xi_iaload (pc' := 179) (v := 0) kc_37_178 rfl (G8 142 _ rfl hl_142) (by decide) rfl (xi_in (n := 12) (by decide) (by decide)) rfl ?_
  refine xi_aload_n (pc' := 180) (x := 115) kc_37_179 rfl rfl ?_
  refine xi_getfield (pc' := 183) (v := .int 4) kc_37_180 rfl rfl rfl A8_115 rfl ?_
  refine xi_imul (pc' := 184) (v := 0) kc_37_183 rfl rfl ?_
  refine xi_bipush (pc' := 186) (v := 99) kc_37_184 rfl rfl ?_
  refine xi_iadd (pc' := 187) (v := 99) kc_37_186 rfl rfl ?_
  refine xi_bipush (pc' := 189) (v := 100) kc_37_187 rfl rfl ?_
  refine xi_idiv (pc' := 190) (v := 0) kc_37_189 rfl rfl (by decide) ?_
  refine xi_isub (pc' := 191) (v := 0) kc_37_190 rfl rfl ?_
  refine xi_iastore (pc' := 192) (x' := List.replicate 12 0) kc_37_191 rfl (G8 142 _ rfl hl_142) rfl (xi_in (by decide) (by rw [List.length_replicate]; decide)) xa_sr (fun hh9 eh9 => ?_)
  have G9 := xg_keep G8 eh9 hl_142
  have A9_115 := (eh9.2.1 115 (by decide)).trans A8_115
  have A9_121 := (eh9.2.1 121 (by decide)).trans A8_121
  have A9_141 := (eh9.2.1 141 (by decide)).trans A8_141
  have n9 := eh9.2.2.1.trans n8
  have z9 := eh9.2.2.2.trans z8
  clear G8 n8 z8 A8_115 A8_121 A8_141 eh9
  refine xi_iinc (pc' := 195) (x := 2) (v := 3) (lv' := [(4, .int 3), (0, .ref 115), (1, .int 0), (2, .int 1), (3, .int hr)]) kc_37_192 rfl rfl rfl rfl (xm_lt ml_37 rfl) ?_
  refine xi_goto (pc' := 157) kc_37_195 rfl ?_
  refine xi_iload (pc' := 159) (x := 3) kc_37_157 rfl rfl ?_
  refine xi_bipush (pc' := 161) (v := 12) kc_37_159 rfl rfl ?_
  refine xi_cmf (pc' := 164) kc_37_161 rfl rfl ?_
  refine xi_aload_n (pc' := 165) (x := 115) kc_37_164 rfl rfl ?_
  refine xi_getfield (pc' := 168) (v := .ref 142) kc_37_165 rfl rfl rfl A9_115 rfl ?_
  refine xi_iload (pc' := 170) (x := 3) kc_37_168 rfl rfl ?_
  refine xi_dup2 (pc' := 171) kc_37_170 rfl ⟨rfl, rfl⟩ ?_
  refine xi_iaload (pc' := 172) (v := 0) kc_37_171 rfl (G9 142 _ rfl hl_142) (by decide) rfl (xi_in (n := 12) (by decide) (by decide)) rfl ?_
  refine xi_aload_n (pc' := 173) (x := 115) kc_37_172 rfl rfl ?_
  refine xi_getfield (pc' := 176) (v := .ref 142) kc_37_173 rfl rfl rfl A9_115 rfl ?_
  refine xi_iload (pc' := 178) (x := 3) kc_37_176 rfl rfl ?_
  refine xi_iaload (pc' := 179) (v := 0) kc_37_178 rfl (G9 142 _ rfl hl_142) (by decide) rfl (xi_in (n := 12) (by decide) (by decide)) rfl ?_
  refine xi_aload_n (pc' := 180) (x := 115) kc_37_179 rfl rfl ?_
  refine xi_getfield (pc' := 183) (v := .int 4) kc_37_180 rfl rfl rfl A9_115 rfl ?_
  refine xi_imul (pc' := 184) (v := 0) kc_37_183 rfl rfl ?_
  refine xi_bipush (pc' := 186) (v := 99) kc_37_184 rfl rfl ?_
  refine xi_iadd (pc' := 187) (v := 99) kc_37_186 rfl rfl ?_
  refine xi_bipush (pc' := 189) (v := 100) kc_37_187 rfl rfl ?_
  refine xi_idiv (pc' := 190) (v := 0) kc_37_189 rfl rfl (by decide) ?_
  refine xi_isub (pc' := 191) (v := 0) kc_37_190 rfl rfl ?_
  refine xi_iastore (pc' := 192) (x' := List.replicate 12 0) kc_37_191 rfl (G9 142 _ rfl hl_142) rfl (xi_in (by decide) (by rw [List.length_replicate]; decide)) xa_sr (fun hh10 eh10 => ?_)
  have G10 := xg_keep G9 eh10 hl_142
  have A10_115 := (eh10.2.1 115 (by decide)).trans A9_115
  have A10_121 := (eh10.2.1 121 (by decide)).trans A9_121
  have A10_141 := (eh10.2.1 141 (by decide)).trans A9_141
  have n10 := eh10.2.2.1.trans n9
  have z10 := eh10.2.2.2.trans z9
  clear G9 n9 z9 A9_115 A9_121 A9_141 eh10
  refine xi_iinc (pc' := 195) (x := 3) (v := 4) (lv' := [(4, .int 4), (0, .ref 115), (1, .int 0), (2, .int 1), (3, .int hr)]) kc_37_192 rfl rfl rfl rfl (xm_lt ml_37 rfl) ?_
  refine xi_goto (pc' := 157) kc_37_195 rfl ?_
  refine xi_iload (pc' := 159) (x := 4) kc_37_157 rfl rfl ?_
  refine xi_bipush (pc' := 161) (v := 12) kc_37_159 rfl rfl ?_
  refine xi_cmf (pc' := 164) kc_37_161 rfl rfl ?_
  refine xi_aload_n (pc' := 165) (x := 115) kc_37_164 rfl rfl ?_
  refine xi_getfield (pc' := 168) (v := .ref 142) kc_37_165 rfl rfl rfl A10_115 rfl ?_
  refine xi_iload (pc' := 170) (x := 4) kc_37_168 rfl rfl ?_
  refine xi_dup2 (pc' := 171) kc_37_170 rfl ⟨rfl, rfl⟩ ?_
  refine xi_iaload (pc' := 172) (v := 0) kc_37_171 rfl (G10 142 _ rfl hl_142) (by decide) rfl (xi_in (n := 12) (by decide) (by decide)) rfl ?_
  refine xi_aload_n (pc' := 173) (x := 115) kc_37_172 rfl rfl ?_
  refine xi_getfield (pc' := 176) (v := .ref 142) kc_37_173 rfl rfl rfl A10_115 rfl ?_
  refine xi_iload (pc' := 178) (x := 4) kc_37_176 rfl rfl ?_
  refine xi_iaload (pc' := 179) (v := 0) kc_37_178 rfl (G10 142 _ rfl hl_142) (by decide) rfl (xi_in (n := 12) (by decide) (by decide)) rfl ?_
  refine xi_aload_n (pc' := 180) (x := 115) kc_37_179 rfl rfl ?_
  refine xi_getfield (pc' := 183) (v := .int 4) kc_37_180 rfl rfl rfl A10_115 rfl ?_
  refine xi_imul (pc' := 184) (v := 0) kc_37_183 rfl rfl ?_
  refine xi_bipush (pc' := 186) (v := 99) kc_37_184 rfl rfl ?_
  refine xi_iadd (pc' := 187) (v := 99) kc_37_186 rfl rfl ?_
  refine xi_bipush (pc' := 189) (v := 100) kc_37_187 rfl rfl ?_
  refine xi_idiv (pc' := 190) (v := 0) kc_37_189 rfl rfl (by decide) ?_
  refine xi_isub (pc' := 191) (v := 0) kc_37_190 rfl rfl ?_
  refine xi_iastore (pc' := 192) (x' := List.replicate 12 0) kc_37_191 rfl (G10 142 _ rfl hl_142) rfl (xi_in (by decide) (by rw [List.length_replicate]; decide)) xa_sr (fun hh11 eh11 => ?_)
  have G11 := xg_keep G10 eh11 hl_142
  have A11_115 := (eh11.2.1 115 (by decide)).trans A10_115
  have A11_121 := (eh11.2.1 121 (by decide)).trans A10_121
  have A11_141 := (eh11.2.1 141 (by decide)).trans A10_141
  have n11 := eh11.2.2.1.trans n10
  have z11 := eh11.2.2.2.trans z10
  clear G10 n10 z10 A10_115 A10_121 A10_141 eh11
  refine xi_iinc (pc' := 195) (x := 4) (v := 5) (lv' := [(4, .int 5), (0, .ref 115), (1, .int 0), (2, .int 1), (3, .int hr)]) kc_37_192 rfl rfl rfl rfl (xm_lt ml_37 rfl) ?_
  refine xi_goto (pc' := 157) kc_37_195 rfl ?_
  refine xi_iload (pc' := 159) (x := 5) kc_37_157 rfl rfl ?_
  refine xi_bipush (pc' := 161) (v := 12) kc_37_159 rfl rfl ?_
  refine xi_cmf (pc' := 164) kc_37_161 rfl rfl ?_
  refine xi_aload_n (pc' := 165) (x := 115) kc_37_164 rfl rfl ?_
  refine xi_getfield (pc' := 168) (v := .ref 142) kc_37_165 rfl rfl rfl A11_115 rfl ?_
  refine xi_iload (pc' := 170) (x := 5) kc_37_168 rfl rfl ?_
  refine xi_dup2 (pc' := 171) kc_37_170 rfl ⟨rfl, rfl⟩ ?_
  refine xi_iaload (pc' := 172) (v := 0) kc_37_171 rfl (G11 142 _ rfl hl_142) (by decide) rfl (xi_in (n := 12) (by decide) (by decide)) rfl ?_
  refine xi_aload_n (pc' := 173) (x := 115) kc_37_172 rfl rfl ?_
  refine xi_getfield (pc' := 176) (v := .ref 142) kc_37_173 rfl rfl rfl A11_115 rfl ?_
  refine xi_iload (pc' := 178) (x := 5) kc_37_176 rfl rfl ?_
  refine xi_iaload (pc' := 179) (v := 0) kc_37_178 rfl (G11 142 _ rfl hl_142) (by decide) rfl (xi_in (n := 12) (by decide) (by decide)) rfl ?_
  refine xi_aload_n (pc' := 180) (x := 115) kc_37_179 rfl rfl ?_
  refine xi_getfield (pc' := 183) (v := .int 4) kc_37_180 rfl rfl rfl A11_115 rfl ?_
  refine xi_imul (pc' := 184) (v := 0) kc_37_183 rfl rfl ?_
  refine xi_bipush (pc' := 186) (v := 99) kc_37_184 rfl rfl ?_
  refine xi_iadd (pc' := 187) (v := 99) kc_37_186 rfl rfl ?_
  refine xi_bipush (pc' := 189) (v := 100) kc_37_187 rfl rfl ?_
  refine xi_idiv (pc' := 190) (v := 0) kc_37_189 rfl rfl (by decide) ?_
  refine xi_isub (pc' := 191) (v := 0) kc_37_190 rfl rfl ?_
  refine xi_iastore (pc' := 192) (x' := List.replicate 12 0) kc_37_191 rfl (G11 142 _ rfl hl_142) rfl (xi_in (by decide) (by rw [List.length_replicate]; decide)) xa_sr (fun hh12 eh12 => ?_)
  have G12 := xg_keep G11 eh12 hl_142
  have A12_115 := (eh12.2.1 115 (by decide)).trans A11_115
  have A12_121 := (eh12.2.1 121 (by decide)).trans A11_121
  have A12_141 := (eh12.2.1 141 (by decide)).trans A11_141
  have n12 := eh12.2.2.1.trans n11
  have z12 := eh12.2.2.2.trans z11
  clear G11 n11 z11 A11_115 A11_121 A11_141 eh12
  refine xi_iinc (pc' := 195) (x := 5) (v := 6) (lv' := [(4, .int 6), (0, .ref 115), (1, .int 0), (2, .int 1), (3, .int hr)]) kc_37_192 rfl rfl rfl rfl (xm_lt ml_37 rfl) ?_
  refine xi_goto (pc' := 157) kc_37_195 rfl ?_
  refine xi_iload (pc' := 159) (x := 6) kc_37_157 rfl rfl ?_
  refine xi_bipush (pc' := 161) (v := 12) kc_37_159 rfl rfl ?_
  refine xi_cmf (pc' := 164) kc_37_161 rfl rfl ?_
  refine xi_aload_n (pc' := 165) (x := 115) kc_37_164 rfl rfl ?_
  refine xi_getfield (pc' := 168) (v := .ref 142) kc_37_165 rfl rfl rfl A12_115 rfl ?_
  refine xi_iload (pc' := 170) (x := 6) kc_37_168 rfl rfl ?_
  refine xi_dup2 (pc' := 171) kc_37_170 rfl ⟨rfl, rfl⟩ ?_
  refine xi_iaload (pc' := 172) (v := 0) kc_37_171 rfl (G12 142 _ rfl hl_142) (by decide) rfl (xi_in (n := 12) (by decide) (by decide)) rfl ?_
  refine xi_aload_n (pc' := 173) (x := 115) kc_37_172 rfl rfl ?_
  refine xi_getfield (pc' := 176) (v := .ref 142) kc_37_173 rfl rfl rfl A12_115 rfl ?_
  refine xi_iload (pc' := 178) (x := 6) kc_37_176 rfl rfl ?_
  refine xi_iaload (pc' := 179) (v := 0) kc_37_178 rfl (G12 142 _ rfl hl_142) (by decide) rfl (xi_in (n := 12) (by decide) (by decide)) rfl ?_
  refine xi_aload_n (pc' := 180) (x := 115) kc_37_179 rfl rfl ?_
  refine xi_getfield (pc' := 183) (v := .int 4) kc_37_180 rfl rfl rfl A12_115 rfl ?_
  refine xi_imul (pc' := 184) (v := 0) kc_37_183 rfl rfl ?_
  refine xi_bipush (pc' := 186) (v := 99) kc_37_184 rfl rfl ?_
  refine xi_iadd (pc' := 187) (v := 99) kc_37_186 rfl rfl ?_
  refine xi_bipush (pc' := 189) (v := 100) kc_37_187 rfl rfl ?_
  refine xi_idiv (pc' := 190) (v := 0) kc_37_189 rfl rfl (by decide) ?_
  refine xi_isub (pc' := 191) (v := 0) kc_37_190 rfl rfl ?_
  refine xi_iastore (pc' := 192) (x' := List.replicate 12 0) kc_37_191 rfl (G12 142 _ rfl hl_142) rfl (xi_in (by decide) (by rw [List.length_replicate]; decide)) xa_sr (fun hh13 eh13 => ?_)
  have G13 := xg_keep G12 eh13 hl_142
  have A13_115 := (eh13.2.1 115 (by decide)).trans A12_115
  have A13_121 := (eh13.2.1 121 (by decide)).trans A12_121
  have A13_141 := (eh13.2.1 141 (by decide)).trans A12_141
  have n13 := eh13.2.2.1.trans n12
  have z13 := eh13.2.2.2.trans z12
  clear G12 n12 z12 A12_115 A12_121 A12_141 eh13
  refine xi_iinc (pc' := 195) (x := 6) (v := 7) (lv' := [(4, .int 7), (0, .ref 115), (1, .int 0), (2, .int 1), (3, .int hr)]) kc_37_192 rfl rfl rfl rfl (xm_lt ml_37 rfl) ?_
  refine xi_goto (pc' := 157) kc_37_195 rfl ?_
  refine xi_iload (pc' := 159) (x := 7) kc_37_157 rfl rfl ?_
  refine xi_bipush (pc' := 161) (v := 12) kc_37_159 rfl rfl ?_
  refine xi_cmf (pc' := 164) kc_37_161 rfl rfl ?_
  refine xi_aload_n (pc' := 165) (x := 115) kc_37_164 rfl rfl ?_
  refine xi_getfield (pc' := 168) (v := .ref 142) kc_37_165 rfl rfl rfl A13_115 rfl ?_
  refine xi_iload (pc' := 170) (x := 7) kc_37_168 rfl rfl ?_
  refine xi_dup2 (pc' := 171) kc_37_170 rfl ⟨rfl, rfl⟩ ?_
  refine xi_iaload (pc' := 172) (v := 0) kc_37_171 rfl (G13 142 _ rfl hl_142) (by decide) rfl (xi_in (n := 12) (by decide) (by decide)) rfl ?_
  refine xi_aload_n (pc' := 173) (x := 115) kc_37_172 rfl rfl ?_
  refine xi_getfield (pc' := 176) (v := .ref 142) kc_37_173 rfl rfl rfl A13_115 rfl ?_
  refine xi_iload (pc' := 178) (x := 7) kc_37_176 rfl rfl ?_
  refine xi_iaload (pc' := 179) (v := 0) kc_37_178 rfl (G13 142 _ rfl hl_142) (by decide) rfl (xi_in (n := 12) (by decide) (by decide)) rfl ?_
  refine xi_aload_n (pc' := 180) (x := 115) kc_37_179 rfl rfl ?_
  refine xi_getfield (pc' := 183) (v := .int 4) kc_37_180 rfl rfl rfl A13_115 rfl ?_
  refine xi_imul (pc' := 184) (v := 0) kc_37_183 rfl rfl ?_
  refine xi_bipush (pc' := 186) (v := 99) kc_37_184 rfl rfl ?_
  refine xi_iadd (pc' := 187) (v := 99) kc_37_186 rfl rfl ?_
  refine xi_bipush (pc' := 189) (v := 100) kc_37_187 rfl rfl ?_
  refine xi_idiv (pc' := 190) (v := 0) kc_37_189 rfl rfl (by decide) ?_
  refine xi_isub (pc' := 191) (v := 0) kc_37_190 rfl rfl ?_
  refine xi_iastore (pc' := 192) (x' := List.replicate 12 0) kc_37_191 rfl (G13 142 _ rfl hl_142) rfl (xi_in (by decide) (by rw [List.length_replicate]; decide)) xa_sr (fun hh14 eh14 => ?_)
  have G14 := xg_keep G13 eh14 hl_142
  have A14_115 := (eh14.2.1 115 (by decide)).trans A13_115
  have A14_121 := (eh14.2.1 121 (by decide)).trans A13_121
  have A14_141 := (eh14.2.1 141 (by decide)).trans A13_141
  have n14 := eh14.2.2.1.trans n13
  have z14 := eh14.2.2.2.trans z13
  clear G13 n13 z13 A13_115 A13_121 A13_141 eh14
  refine xi_iinc (pc' := 195) (x := 7) (v := 8) (lv' := [(4, .int 8), (0, .ref 115), (1, .int 0), (2, .int 1), (3, .int hr)]) kc_37_192 rfl rfl rfl rfl (xm_lt ml_37 rfl) ?_
  refine xi_goto (pc' := 157) kc_37_195 rfl ?_
  refine xi_iload (pc' := 159) (x := 8) kc_37_157 rfl rfl ?_
  refine xi_bipush (pc' := 161) (v := 12) kc_37_159 rfl rfl ?_
  refine xi_cmf (pc' := 164) kc_37_161 rfl rfl ?_
  refine xi_aload_n (pc' := 165) (x := 115) kc_37_164 rfl rfl ?_
  refine xi_getfield (pc' := 168) (v := .ref 142) kc_37_165 rfl rfl rfl A14_115 rfl ?_
  refine xi_iload (pc' := 170) (x := 8) kc_37_168 rfl rfl ?_
  refine xi_dup2 (pc' := 171) kc_37_170 rfl ⟨rfl, rfl⟩ ?_
  refine xi_iaload (pc' := 172) (v := 0) kc_37_171 rfl (G14 142 _ rfl hl_142) (by decide) rfl (xi_in (n := 12) (by decide) (by decide)) rfl ?_
  refine xi_aload_n (pc' := 173) (x := 115) kc_37_172 rfl rfl ?_
  refine xi_getfield (pc' := 176) (v := .ref 142) kc_37_173 rfl rfl rfl A14_115 rfl ?_
  refine xi_iload (pc' := 178) (x := 8) kc_37_176 rfl rfl ?_
  refine xi_iaload (pc' := 179) (v := 0) kc_37_178 rfl (G14 142 _ rfl hl_142) (by decide) rfl (xi_in (n := 12) (by decide) (by decide)) rfl ?_
  refine xi_aload_n (pc' := 180) (x := 115) kc_37_179 rfl rfl ?_
  refine xi_getfield (pc' := 183) (v := .int 4) kc_37_180 rfl rfl rfl A14_115 rfl ?_
  refine xi_imul (pc' := 184) (v := 0) kc_37_183 rfl rfl ?_
  refine xi_bipush (pc' := 186) (v := 99) kc_37_184 rfl rfl ?_
  refine xi_iadd (pc' := 187) (v := 99) kc_37_186 rfl rfl ?_
  refine xi_bipush (pc' := 189) (v := 100) kc_37_187 rfl rfl ?_
  refine xi_idiv (pc' := 190) (v := 0) kc_37_189 rfl rfl (by decide) ?_
  refine xi_isub (pc' := 191) (v := 0) kc_37_190 rfl rfl ?_
  refine xi_iastore (pc' := 192) (x' := List.replicate 12 0) kc_37_191 rfl (G14 142 _ rfl hl_142) rfl (xi_in (by decide) (by rw [List.length_replicate]; decide)) xa_sr (fun hh15 eh15 => ?_)
  have G15 := xg_keep G14 eh15 hl_142
  have A15_115 := (eh15.2.1 115 (by decide)).trans A14_115
  have A15_121 := (eh15.2.1 121 (by decide)).trans A14_121
  have A15_141 := (eh15.2.1 141 (by decide)).trans A14_141
  have n15 := eh15.2.2.1.trans n14
  have z15 := eh15.2.2.2.trans z14
  clear G14 n14 z14 A14_115 A14_121 A14_141 eh15
  refine xi_iinc (pc' := 195) (x := 8) (v := 9) (lv' := [(4, .int 9), (0, .ref 115), (1, .int 0), (2, .int 1), (3, .int hr)]) kc_37_192 rfl rfl rfl rfl (xm_lt ml_37 rfl) ?_
  refine xi_goto (pc' := 157) kc_37_195 rfl ?_
  refine xi_iload (pc' := 159) (x := 9) kc_37_157 rfl rfl ?_
  refine xi_bipush (pc' := 161) (v := 12) kc_37_159 rfl rfl ?_
  refine xi_cmf (pc' := 164) kc_37_161 rfl rfl ?_
  refine xi_aload_n (pc' := 165) (x := 115) kc_37_164 rfl rfl ?_
  refine xi_getfield (pc' := 168) (v := .ref 142) kc_37_165 rfl rfl rfl A15_115 rfl ?_
  refine xi_iload (pc' := 170) (x := 9) kc_37_168 rfl rfl ?_
  refine xi_dup2 (pc' := 171) kc_37_170 rfl ⟨rfl, rfl⟩ ?_
  refine xi_iaload (pc' := 172) (v := 0) kc_37_171 rfl (G15 142 _ rfl hl_142) (by decide) rfl (xi_in (n := 12) (by decide) (by decide)) rfl ?_
  refine xi_aload_n (pc' := 173) (x := 115) kc_37_172 rfl rfl ?_
  refine xi_getfield (pc' := 176) (v := .ref 142) kc_37_173 rfl rfl rfl A15_115 rfl ?_
  refine xi_iload (pc' := 178) (x := 9) kc_37_176 rfl rfl ?_
  refine xi_iaload (pc' := 179) (v := 0) kc_37_178 rfl (G15 142 _ rfl hl_142) (by decide) rfl (xi_in (n := 12) (by decide) (by decide)) rfl ?_
  refine xi_aload_n (pc' := 180) (x := 115) kc_37_179 rfl rfl ?_
  refine xi_getfield (pc' := 183) (v := .int 4) kc_37_180 rfl rfl rfl A15_115 rfl ?_
  refine xi_imul (pc' := 184) (v := 0) kc_37_183 rfl rfl ?_
  refine xi_bipush (pc' := 186) (v := 99) kc_37_184 rfl rfl ?_
  refine xi_iadd (pc' := 187) (v := 99) kc_37_186 rfl rfl ?_
  refine xi_bipush (pc' := 189) (v := 100) kc_37_187 rfl rfl ?_
  refine xi_idiv (pc' := 190) (v := 0) kc_37_189 rfl rfl (by decide) ?_
  refine xi_isub (pc' := 191) (v := 0) kc_37_190 rfl rfl ?_
  refine xi_iastore (pc' := 192) (x' := List.replicate 12 0) kc_37_191 rfl (G15 142 _ rfl hl_142) rfl (xi_in (by decide) (by rw [List.length_replicate]; decide)) xa_sr (fun hh16 eh16 => ?_)
  have G16 := xg_keep G15 eh16 hl_142
  have A16_115 := (eh16.2.1 115 (by decide)).trans A15_115
  have A16_121 := (eh16.2.1 121 (by decide)).trans A15_121
  have A16_141 := (eh16.2.1 141 (by decide)).trans A15_141
  have n16 := eh16.2.2.1.trans n15
  have z16 := eh16.2.2.2.trans z15
  clear G15 n15 z15 A15_115 A15_121 A15_141 eh16
  refine xi_iinc (pc' := 195) (x := 9) (v := 10) (lv' := [(4, .int 10), (0, .ref 115), (1, .int 0), (2, .int 1), (3, .int hr)]) kc_37_192 rfl rfl rfl rfl (xm_lt ml_37 rfl) ?_
  refine xi_goto (pc' := 157) kc_37_195 rfl ?_
  refine xi_iload (pc' := 159) (x := 10) kc_37_157 rfl rfl ?_
  refine xi_bipush (pc' := 161) (v := 12) kc_37_159 rfl rfl ?_
  refine xi_cmf (pc' := 164) kc_37_161 rfl rfl ?_
  refine xi_aload_n (pc' := 165) (x := 115) kc_37_164 rfl rfl ?_
  refine xi_getfield (pc' := 168) (v := .ref 142) kc_37_165 rfl rfl rfl A16_115 rfl ?_
  refine xi_iload (pc' := 170) (x := 10) kc_37_168 rfl rfl ?_
  refine xi_dup2 (pc' := 171) kc_37_170 rfl ⟨rfl, rfl⟩ ?_
  refine xi_iaload (pc' := 172) (v := 0) kc_37_171 rfl (G16 142 _ rfl hl_142) (by decide) rfl (xi_in (n := 12) (by decide) (by decide)) rfl ?_
  refine xi_aload_n (pc' := 173) (x := 115) kc_37_172 rfl rfl ?_
  refine xi_getfield (pc' := 176) (v := .ref 142) kc_37_173 rfl rfl rfl A16_115 rfl ?_
  refine xi_iload (pc' := 178) (x := 10) kc_37_176 rfl rfl ?_
  refine xi_iaload (pc' := 179) (v := 0) kc_37_178 rfl (G16 142 _ rfl hl_142) (by decide) rfl (xi_in (n := 12) (by decide) (by decide)) rfl ?_
  refine xi_aload_n (pc' := 180) (x := 115) kc_37_179 rfl rfl ?_
  refine xi_getfield (pc' := 183) (v := .int 4) kc_37_180 rfl rfl rfl A16_115 rfl ?_
  refine xi_imul (pc' := 184) (v := 0) kc_37_183 rfl rfl ?_
  refine xi_bipush (pc' := 186) (v := 99) kc_37_184 rfl rfl ?_
  refine xi_iadd (pc' := 187) (v := 99) kc_37_186 rfl rfl ?_
  refine xi_bipush (pc' := 189) (v := 100) kc_37_187 rfl rfl ?_
  refine xi_idiv (pc' := 190) (v := 0) kc_37_189 rfl rfl (by decide) ?_
  refine xi_isub (pc' := 191) (v := 0) kc_37_190 rfl rfl ?_
  refine xi_iastore (pc' := 192) (x' := List.replicate 12 0) kc_37_191 rfl (G16 142 _ rfl hl_142) rfl (xi_in (by decide) (by rw [List.length_replicate]; decide)) xa_sr (fun hh17 eh17 => ?_)
  have G17 := xg_keep G16 eh17 hl_142
  have A17_115 := (eh17.2.1 115 (by decide)).trans A16_115
  have A17_121 := (eh17.2.1 121 (by decide)).trans A16_121
  have A17_141 := (eh17.2.1 141 (by decide)).trans A16_141
  have n17 := eh17.2.2.1.trans n16
  have z17 := eh17.2.2.2.trans z16
  clear G16 n16 z16 A16_115 A16_121 A16_141 eh17
  refine xi_iinc (pc' := 195) (x := 10) (v := 11) (lv' := [(4, .int 11), (0, .ref 115), (1, .int 0), (2, .int 1), (3, .int hr)]) kc_37_192 rfl rfl rfl rfl (xm_lt ml_37 rfl) ?_
  refine xi_goto (pc' := 157) kc_37_195 rfl ?_
  refine xi_iload (pc' := 159) (x := 11) kc_37_157 rfl rfl ?_
  refine xi_bipush (pc' := 161) (v := 12) kc_37_159 rfl rfl ?_
  refine xi_cmf (pc' := 164) kc_37_161 rfl rfl ?_
  refine xi_aload_n (pc' := 165) (x := 115) kc_37_164 rfl rfl ?_
  refine xi_getfield (pc' := 168) (v := .ref 142) kc_37_165 rfl rfl rfl A17_115 rfl ?_
  refine xi_iload (pc' := 170) (x := 11) kc_37_168 rfl rfl ?_
  refine xi_dup2 (pc' := 171) kc_37_170 rfl ⟨rfl, rfl⟩ ?_
  refine xi_iaload (pc' := 172) (v := 0) kc_37_171 rfl (G17 142 _ rfl hl_142) (by decide) rfl (xi_in (n := 12) (by decide) (by decide)) rfl ?_
  refine xi_aload_n (pc' := 173) (x := 115) kc_37_172 rfl rfl ?_
  refine xi_getfield (pc' := 176) (v := .ref 142) kc_37_173 rfl rfl rfl A17_115 rfl ?_
  refine xi_iload (pc' := 178) (x := 11) kc_37_176 rfl rfl ?_
  refine xi_iaload (pc' := 179) (v := 0) kc_37_178 rfl (G17 142 _ rfl hl_142) (by decide) rfl (xi_in (n := 12) (by decide) (by decide)) rfl ?_
  refine xi_aload_n (pc' := 180) (x := 115) kc_37_179 rfl rfl ?_
  refine xi_getfield (pc' := 183) (v := .int 4) kc_37_180 rfl rfl rfl A17_115 rfl ?_
  refine xi_imul (pc' := 184) (v := 0) kc_37_183 rfl rfl ?_
  refine xi_bipush (pc' := 186) (v := 99) kc_37_184 rfl rfl ?_
  refine xi_iadd (pc' := 187) (v := 99) kc_37_186 rfl rfl ?_
  refine xi_bipush (pc' := 189) (v := 100) kc_37_187 rfl rfl ?_
  refine xi_idiv (pc' := 190) (v := 0) kc_37_189 rfl rfl (by decide) ?_
  refine xi_isub (pc' := 191) (v := 0) kc_37_190 rfl rfl ?_
  refine xi_iastore (pc' := 192) (x' := List.replicate 12 0) kc_37_191 rfl (G17 142 _ rfl hl_142) rfl (xi_in (by decide) (by rw [List.length_replicate]; decide)) xa_sr (fun hh18 eh18 => ?_)
  have G18 := xg_keep G17 eh18 hl_142
  have A18_115 := (eh18.2.1 115 (by decide)).trans A17_115
  have A18_121 := (eh18.2.1 121 (by decide)).trans A17_121
  have A18_141 := (eh18.2.1 141 (by decide)).trans A17_141
  have n18 := eh18.2.2.1.trans n17
  have z18 := eh18.2.2.2.trans z17
  clear G17 n17 z17 A17_115 A17_121 A17_141 eh18
  refine xi_iinc (pc' := 195) (x := 11) (v := 12) (lv' := [(4, .int 12), (0, .ref 115), (1, .int 0), (2, .int 1), (3, .int hr)]) kc_37_192 rfl rfl rfl rfl (xm_lt ml_37 rfl) ?_
  refine xi_goto (pc' := 157) kc_37_195 rfl ?_
  refine xi_iload (pc' := 159) (x := 12) kc_37_157 rfl rfl ?_
  refine xi_bipush (pc' := 161) (v := 12) kc_37_159 rfl rfl ?_
  refine xi_cmt (pc' := 198) kc_37_161 rfl rfl ?_
  refine xi_return kc_37_198 mr_37 ?_
  exact kk y0_6 y1_6 y2_6 y3_6 y4_6 y5_6 hh18 (by first | omega | decide) (by first | omega | decide) (by first | omega | decide) (by first | omega | decide) (by first | omega | decide) (by first | omega | decide) (by first | omega | decide) (by first | omega | decide) (by first | omega | decide) (by first | omega | decide) (by first | omega | decide) (by first | omega | decide) G18 A18_115 A18_121 A18_141 n18 z18
set_option maxHeartbeats 8000000 in
set_option maxRecDepth 20000 in
theorem hb_copy {J : xe_J} {ov : List (List Int32)} {d N Z : Nat} (hJ : ∀ d mj as h, mj ≠ xe_loff → J d mj as h = none) {Q : Option Value → xe_H → Prop} {hr cn w0 w1 w2 w3 w4 w5 y0 y1 y2 y3 y4 y5 : Int32} {h : xe_H} (h_0 : 0 ≤ w0.toInt) (h_1 : 0 ≤ w1.toInt) (h_2 : 0 ≤ w2.toInt) (h_3 : 0 ≤ w3.toInt) (h_4 : 0 ≤ w4.toInt) (h_5 : 0 ≤ w5.toInt) (h_6 : w0.toInt ≤ 880) (h_7 : w1.toInt ≤ 880) (h_8 : w2.toInt ≤ 880) (h_9 : w3.toInt ≤ 880) (h_10 : w4.toInt ≤ 880) (h_11 : w5.toInt ≤ 880) (G0 : xg [0, 64, 115, 121, 141] h) (A0_115 : h[115]? = some (.inr (12, [.int 0, .int hr, .ref 116, .ref 117, .ref 118, .ref 119, .ref 120, .ref 121, .ref 122, .ref 123, .ref 124, .ref 125, .ref 126, .ref 127, .ref 128, .ref 129, .int 4, .ref 130, .int 0, .ref 131, .ref 132, .ref 133, .ref 134, .int 0, .ref 135, .ref 136, .ref 137, .ref 138, .ref 139, .ref 140, .ref 141, .ref 142, .int cn, .int 0, .int 0, .ref 143, .ref 144, .ref 145, .ref 146, .ref 147, .ref 148, .int 0, .ref 149, .ref 150, .ref 151, .int 0, .ref 152, .ref 153, .ref 154, .ref 155, .ref 156, .ref 157, .ref 158, .ref 159, .int 0, .ref 160, .int 0, .ref 161, .ref 162, .ref 163, .ref 164, .int 0, .ref 165, .ref 166]))) (A0_121 : h[121]? = some (.inl (0, .inl ([w0, w1, w2, w3, w4, w5])))) (A0_141 : h[141]? = some (.inl (0, .inl ([y0, y1, y2, y3, y4, y5])))) (n0 : h.length = N) (z0 : xe_sz h = Z) (kk : ∀ (y0_ y1_ y2_ y3_ y4_ y5_ : Int32) (h1 : xe_H), 0 ≤ y0_.toInt → 0 ≤ y1_.toInt → 0 ≤ y2_.toInt → 0 ≤ y3_.toInt → 0 ≤ y4_.toInt → 0 ≤ y5_.toInt → y0_.toInt ≤ 880 → y1_.toInt ≤ 880 → y2_.toInt ≤ 880 → y3_.toInt ≤ 880 → y4_.toInt ≤ 880 → y5_.toInt ≤ 880 → xg [0, 64, 115, 121, 141] h1 → h1[115]? = some (.inr (12, [.int 0, .int hr, .ref 116, .ref 117, .ref 118, .ref 119, .ref 120, .ref 121, .ref 122, .ref 123, .ref 124, .ref 125, .ref 126, .ref 127, .ref 128, .ref 129, .int 4, .ref 130, .int 0, .ref 131, .ref 132, .ref 133, .ref 134, .int 0, .ref 135, .ref 136, .ref 137, .ref 138, .ref 139, .ref 140, .ref 141, .ref 142, .int cn, .int 0, .int 0, .ref 143, .ref 144, .ref 145, .ref 146, .ref 147, .ref 148, .int 0, .ref 149, .ref 150, .ref 151, .int 0, .ref 152, .ref 153, .ref 154, .ref 155, .ref 156, .ref 157, .ref 158, .ref 159, .int 0, .ref 160, .int 0, .ref 161, .ref 162, .ref 163, .ref 164, .int 0, .ref 165, .ref 166])) → h1[121]? = some (.inl (0, .inl ([w0, w1, w2, w3, w4, w5]))) → h1[141]? = some (.inl (0, .inl ([y0_, y1_, y2_, y3_, y4_, y5_]))) → h1.length = N → xe_sz h1 = Z → xw J ov (d + 4) 36 (143, [(1, .int 12), (0, .ref 115)], [], h1) Q) : xw J ov (d + 4) 36 (0, [(0, .ref 115)], [], h) Q := by
  refine xi_iconst (pc' := 1) (v := 0) kc_36_0 rfl rfl ?_
  refine xi_istore_n (pc' := 2) (lv' := [(1, .int 0), (0, .ref 115)]) kc_36_1 rfl rfl (xm_lt ml_36 rfl) ?_
  refine xi_iload_n (pc' := 3) (x := 0) kc_36_2 rfl rfl ?_
  refine xi_aload_n (pc' := 4) (x := 115) kc_36_3 rfl rfl ?_
  refine xi_getfield (pc' := 7) (v := .int 0) kc_36_4 rfl rfl rfl A0_115 rfl ?_
  refine xi_cmt (pc' := 91) kc_36_7 rfl rfl ?_
  refine xi_iconst (pc' := 92) (v := 0) kc_36_91 rfl rfl ?_
  refine xi_istore_n (pc' := 93) (lv' := [(1, .int 0), (0, .ref 115)]) kc_36_92 rfl rfl (xm_lt ml_36 rfl) ?_
  refine xi_iload_n (pc' := 94) (x := 0) kc_36_93 rfl rfl ?_
  refine xi_bipush (pc' := 96) (v := 6) kc_36_94 rfl rfl ?_
  refine xi_cmf (pc' := 99) kc_36_96 rfl rfl ?_
  refine xi_aload_n (pc' := 100) (x := 115) kc_36_99 rfl rfl ?_
  refine xi_getfield (pc' := 103) (v := .ref 141) kc_36_100 rfl rfl rfl A0_115 rfl ?_
  refine xi_iload_n (pc' := 104) (x := 0) kc_36_103 rfl rfl ?_
  refine xi_aload_n (pc' := 105) (x := 115) kc_36_104 rfl rfl ?_
  refine xi_getfield (pc' := 108) (v := .ref 121) kc_36_105 rfl rfl rfl A0_115 rfl ?_
  refine xi_iload_n (pc' := 109) (x := 0) kc_36_108 rfl rfl ?_
  refine xi_iaload (pc' := 110) (v := w0) kc_36_109 rfl A0_121 (by decide) rfl (xi_in (n := 6) (by decide) (by decide)) rfl ?_
  refine xi_iastore (pc' := 111) (x' := [w0, y1, y2, y3, y4, y5]) kc_36_110 rfl A0_141 rfl (xi_in (n := 6) (by decide) (by decide)) rfl (fun hh1 eh1 => ?_)
  have G1 := xg_skip G0 eh1 rfl
  have A1_115 := (eh1.2.1 115 (by decide)).trans A0_115
  have A1_121 := (eh1.2.1 121 (by decide)).trans A0_121
  have A1_141 := eh1.1
  have n1 := eh1.2.2.1.trans n0
  have z1 := eh1.2.2.2.trans z0
  clear G0 n0 z0 A0_115 A0_121 A0_141 eh1
  refine xi_iinc (pc' := 114) (x := 0) (v := 1) (lv' := [(1, .int 1), (0, .ref 115)]) kc_36_111 rfl rfl rfl rfl (xm_lt ml_36 rfl) ?_
  refine xi_goto (pc' := 93) kc_36_114 rfl ?_
  refine xi_iload_n (pc' := 94) (x := 1) kc_36_93 rfl rfl ?_
  refine xi_bipush (pc' := 96) (v := 6) kc_36_94 rfl rfl ?_
  refine xi_cmf (pc' := 99) kc_36_96 rfl rfl ?_
  refine xi_aload_n (pc' := 100) (x := 115) kc_36_99 rfl rfl ?_
  refine xi_getfield (pc' := 103) (v := .ref 141) kc_36_100 rfl rfl rfl A1_115 rfl ?_
  refine xi_iload_n (pc' := 104) (x := 1) kc_36_103 rfl rfl ?_
  refine xi_aload_n (pc' := 105) (x := 115) kc_36_104 rfl rfl ?_
  refine xi_getfield (pc' := 108) (v := .ref 121) kc_36_105 rfl rfl rfl A1_115 rfl ?_
  refine xi_iload_n (pc' := 109) (x := 1) kc_36_108 rfl rfl ?_
  refine xi_iaload (pc' := 110) (v := w1) kc_36_109 rfl A1_121 (by decide) rfl (xi_in (n := 6) (by decide) (by decide)) rfl ?_
  refine xi_iastore (pc' := 111) (x' := [w0, w1, y2, y3, y4, y5]) kc_36_110 rfl A1_141 rfl (xi_in (n := 6) (by decide) (by decide)) rfl (fun hh2 eh2 => ?_)
  have G2 := xg_skip G1 eh2 rfl
  have A2_115 := (eh2.2.1 115 (by decide)).trans A1_115
  have A2_121 := (eh2.2.1 121 (by decide)).trans A1_121
  have A2_141 := eh2.1
  have n2 := eh2.2.2.1.trans n1
  have z2 := eh2.2.2.2.trans z1
  clear G1 n1 z1 A1_115 A1_121 A1_141 eh2
  refine xi_iinc (pc' := 114) (x := 1) (v := 2) (lv' := [(1, .int 2), (0, .ref 115)]) kc_36_111 rfl rfl rfl rfl (xm_lt ml_36 rfl) ?_
  refine xi_goto (pc' := 93) kc_36_114 rfl ?_
  refine xi_iload_n (pc' := 94) (x := 2) kc_36_93 rfl rfl ?_
  refine xi_bipush (pc' := 96) (v := 6) kc_36_94 rfl rfl ?_
  refine xi_cmf (pc' := 99) kc_36_96 rfl rfl ?_
  refine xi_aload_n (pc' := 100) (x := 115) kc_36_99 rfl rfl ?_
  refine xi_getfield (pc' := 103) (v := .ref 141) kc_36_100 rfl rfl rfl A2_115 rfl ?_
  refine xi_iload_n (pc' := 104) (x := 2) kc_36_103 rfl rfl ?_
  refine xi_aload_n (pc' := 105) (x := 115) kc_36_104 rfl rfl ?_
  refine xi_getfield (pc' := 108) (v := .ref 121) kc_36_105 rfl rfl rfl A2_115 rfl ?_
  refine xi_iload_n (pc' := 109) (x := 2) kc_36_108 rfl rfl ?_
  refine xi_iaload (pc' := 110) (v := w2) kc_36_109 rfl A2_121 (by decide) rfl (xi_in (n := 6) (by decide) (by decide)) rfl ?_
  refine xi_iastore (pc' := 111) (x' := [w0, w1, w2, y3, y4, y5]) kc_36_110 rfl A2_141 rfl (xi_in (n := 6) (by decide) (by decide)) rfl (fun hh3 eh3 => ?_)
  have G3 := xg_skip G2 eh3 rfl
  have A3_115 := (eh3.2.1 115 (by decide)).trans A2_115
  have A3_121 := (eh3.2.1 121 (by decide)).trans A2_121
  have A3_141 := eh3.1
  have n3 := eh3.2.2.1.trans n2
  have z3 := eh3.2.2.2.trans z2
  clear G2 n2 z2 A2_115 A2_121 A2_141 eh3
  refine xi_iinc (pc' := 114) (x := 2) (v := 3) (lv' := [(1, .int 3), (0, .ref 115)]) kc_36_111 rfl rfl rfl rfl (xm_lt ml_36 rfl) ?_
  refine xi_goto (pc' := 93) kc_36_114 rfl ?_
  refine xi_iload_n (pc' := 94) (x := 3) kc_36_93 rfl rfl ?_
  refine xi_bipush (pc' := 96) (v := 6) kc_36_94 rfl rfl ?_
  refine xi_cmf (pc' := 99) kc_36_96 rfl rfl ?_
  refine xi_aload_n (pc' := 100) (x := 115) kc_36_99 rfl rfl ?_
  refine xi_getfield (pc' := 103) (v := .ref 141) kc_36_100 rfl rfl rfl A3_115 rfl ?_
  refine xi_iload_n (pc' := 104) (x := 3) kc_36_103 rfl rfl ?_
  refine xi_aload_n (pc' := 105) (x := 115) kc_36_104 rfl rfl ?_
  refine xi_getfield (pc' := 108) (v := .ref 121) kc_36_105 rfl rfl rfl A3_115 rfl ?_
  refine xi_iload_n (pc' := 109) (x := 3) kc_36_108 rfl rfl ?_
  refine xi_iaload (pc' := 110) (v := w3) kc_36_109 rfl A3_121 (by decide) rfl (xi_in (n := 6) (by decide) (by decide)) rfl ?_
  refine xi_iastore (pc' := 111) (x' := [w0, w1, w2, w3, y4, y5]) kc_36_110 rfl A3_141 rfl (xi_in (n := 6) (by decide) (by decide)) rfl (fun hh4 eh4 => ?_)
  have G4 := xg_skip G3 eh4 rfl
  have A4_115 := (eh4.2.1 115 (by decide)).trans A3_115
  have A4_121 := (eh4.2.1 121 (by decide)).trans A3_121
  have A4_141 := eh4.1
  have n4 := eh4.2.2.1.trans n3
  have z4 := eh4.2.2.2.trans z3
  clear G3 n3 z3 A3_115 A3_121 A3_141 eh4
  refine xi_iinc (pc' := 114) (x := 3) (v := 4) (lv' := [(1, .int 4), (0, .ref 115)]) kc_36_111 rfl rfl rfl rfl (xm_lt ml_36 rfl) ?_
  refine xi_goto (pc' := 93) kc_36_114 rfl ?_
  refine xi_iload_n (pc' := 94) (x := 4) kc_36_93 rfl rfl ?_
  refine xi_bipush (pc' := 96) (v := 6) kc_36_94 rfl rfl ?_
  refine xi_cmf (pc' := 99) kc_36_96 rfl rfl ?_
  refine xi_aload_n (pc' := 100) (x := 115) kc_36_99 rfl rfl ?_
  refine xi_getfield (pc' := 103) (v := .ref 141) kc_36_100 rfl rfl rfl A4_115 rfl ?_
  refine xi_iload_n (pc' := 104) (x := 4) kc_36_103 rfl rfl ?_
  refine xi_aload_n (pc' := 105) (x := 115) kc_36_104 rfl rfl ?_
  refine xi_getfield (pc' := 108) (v := .ref 121) kc_36_105 rfl rfl rfl A4_115 rfl ?_
  refine xi_iload_n (pc' := 109) (x := 4) kc_36_108 rfl rfl ?_
  refine xi_iaload (pc' := 110) (v := w4) kc_36_109 rfl A4_121 (by decide) rfl (xi_in (n := 6) (by decide) (by decide)) rfl ?_
  refine xi_iastore (pc' := 111) (x' := [w0, w1, w2, w3, w4, y5]) kc_36_110 rfl A4_141 rfl (xi_in (n := 6) (by decide) (by decide)) rfl (fun hh5 eh5 => ?_)
  have G5 := xg_skip G4 eh5 rfl
  have A5_115 := (eh5.2.1 115 (by decide)).trans A4_115
  have A5_121 := (eh5.2.1 121 (by decide)).trans A4_121
  have A5_141 := eh5.1
  have n5 := eh5.2.2.1.trans n4
  have z5 := eh5.2.2.2.trans z4
  clear G4 n4 z4 A4_115 A4_121 A4_141 eh5
  refine xi_iinc (pc' := 114) (x := 4) (v := 5) (lv' := [(1, .int 5), (0, .ref 115)]) kc_36_111 rfl rfl rfl rfl (xm_lt ml_36 rfl) ?_
  refine xi_goto (pc' := 93) kc_36_114 rfl ?_
  refine xi_iload_n (pc' := 94) (x := 5) kc_36_93 rfl rfl ?_
  refine xi_bipush (pc' := 96) (v := 6) kc_36_94 rfl rfl ?_
  refine xi_cmf (pc' := 99) kc_36_96 rfl rfl ?_
  refine xi_aload_n (pc' := 100) (x := 115) kc_36_99 rfl rfl ?_
  refine xi_getfield (pc' := 103) (v := .ref 141) kc_36_100 rfl rfl rfl A5_115 rfl ?_
  refine xi_iload_n (pc' := 104) (x := 5) kc_36_103 rfl rfl ?_
  refine xi_aload_n (pc' := 105) (x := 115) kc_36_104 rfl rfl ?_
  refine xi_getfield (pc' := 108) (v := .ref 121) kc_36_105 rfl rfl rfl A5_115 rfl ?_
  refine xi_iload_n (pc' := 109) (x := 5) kc_36_108 rfl rfl ?_
  refine xi_iaload (pc' := 110) (v := w5) kc_36_109 rfl A5_121 (by decide) rfl (xi_in (n := 6) (by decide) (by decide)) rfl ?_
  refine xi_iastore (pc' := 111) (x' := [w0, w1, w2, w3, w4, w5]) kc_36_110 rfl A5_141 rfl (xi_in (n := 6) (by decide) (by decide)) rfl (fun hh6 eh6 => ?_)
  have G6 := xg_skip G5 eh6 rfl
  have A6_115 := (eh6.2.1 115 (by decide)).trans A5_115
  have A6_121 := (eh6.2.1 121 (by decide)).trans A5_121
  have A6_141 := eh6.1
  have n6 := eh6.2.2.1.trans n5
  have z6 := eh6.2.2.2.trans z5
  clear G5 n5 z5 A5_115 A5_121 A5_141 eh6
  refine xi_iinc (pc' := 114) (x := 5) (v := 6) (lv' := [(1, .int 6), (0, .ref 115)]) kc_36_111 rfl rfl rfl rfl (xm_lt ml_36 rfl) ?_
  refine xi_goto (pc' := 93) kc_36_114 rfl ?_
  refine xi_iload_n (pc' := 94) (x := 6) kc_36_93 rfl rfl ?_
  refine xi_bipush (pc' := 96) (v := 6) kc_36_94 rfl rfl ?_
  refine xi_cmt (pc' := 117) kc_36_96 rfl rfl ?_
  refine xi_iconst (pc' := 118) (v := 0) kc_36_117 rfl rfl ?_
  refine xi_istore_n (pc' := 119) (lv' := [(1, .int 0), (0, .ref 115)]) kc_36_118 rfl rfl (xm_lt ml_36 rfl) ?_
  refine xi_iload_n (pc' := 120) (x := 0) kc_36_119 rfl rfl ?_
  refine xi_bipush (pc' := 122) (v := 12) kc_36_120 rfl rfl ?_
  refine xi_cmf (pc' := 125) kc_36_122 rfl rfl ?_
  refine xi_aload_n (pc' := 126) (x := 115) kc_36_125 rfl rfl ?_
  refine xi_getfield (pc' := 129) (v := .ref 142) kc_36_126 rfl rfl rfl A6_115 rfl ?_
  refine xi_iload_n (pc' := 130) (x := 0) kc_36_129 rfl rfl ?_
  refine xi_aload_n (pc' := 131) (x := 115) kc_36_130 rfl rfl ?_
  refine xi_getfield (pc' := 134) (v := .ref 128) kc_36_131 rfl rfl rfl A6_115 rfl ?_
  refine xi_iload_n (pc' := 135) (x := 0) kc_36_134 rfl rfl ?_
  refine xi_iaload (pc' := 136) (v := 0) kc_36_135 rfl (G6 128 _ rfl hl_128) (by decide) rfl (xi_in (n := 12) (by decide) (by decide)) rfl ?_
  refine xi_iastore (pc' := 137) (x' := List.replicate 12 0) kc_36_136 rfl (G6 142 _ rfl hl_142) rfl (xi_in (by decide) (by rw [List.length_replicate]; decide)) xa_sr (fun hh7 eh7 => ?_)
  have G7 := xg_keep G6 eh7 hl_142
  have A7_115 := (eh7.2.1 115 (by decide)).trans A6_115
  have A7_121 := (eh7.2.1 121 (by decide)).trans A6_121
  have A7_141 := (eh7.2.1 141 (by decide)).trans A6_141
  have n7 := eh7.2.2.1.trans n6
  have z7 := eh7.2.2.2.trans z6
  clear G6 n6 z6 A6_115 A6_121 A6_141 eh7
  refine xi_iinc (pc' := 140) (x := 0) (v := 1) (lv' := [(1, .int 1), (0, .ref 115)]) kc_36_137 rfl rfl rfl rfl (xm_lt ml_36 rfl) ?_
  refine xi_goto (pc' := 119) kc_36_140 rfl ?_
  refine xi_iload_n (pc' := 120) (x := 1) kc_36_119 rfl rfl ?_
  refine xi_bipush (pc' := 122) (v := 12) kc_36_120 rfl rfl ?_
  refine xi_cmf (pc' := 125) kc_36_122 rfl rfl ?_
  refine xi_aload_n (pc' := 126) (x := 115) kc_36_125 rfl rfl ?_
  refine xi_getfield (pc' := 129) (v := .ref 142) kc_36_126 rfl rfl rfl A7_115 rfl ?_
  refine xi_iload_n (pc' := 130) (x := 1) kc_36_129 rfl rfl ?_
  refine xi_aload_n (pc' := 131) (x := 115) kc_36_130 rfl rfl ?_
  refine xi_getfield (pc' := 134) (v := .ref 128) kc_36_131 rfl rfl rfl A7_115 rfl ?_
  refine xi_iload_n (pc' := 135) (x := 1) kc_36_134 rfl rfl ?_
  refine xi_iaload (pc' := 136) (v := 0) kc_36_135 rfl (G7 128 _ rfl hl_128) (by decide) rfl (xi_in (n := 12) (by decide) (by decide)) rfl ?_
  refine xi_iastore (pc' := 137) (x' := List.replicate 12 0) kc_36_136 rfl (G7 142 _ rfl hl_142) rfl (xi_in (by decide) (by rw [List.length_replicate]; decide)) xa_sr (fun hh8 eh8 => ?_)
  have G8 := xg_keep G7 eh8 hl_142
  have A8_115 := (eh8.2.1 115 (by decide)).trans A7_115
  have A8_121 := (eh8.2.1 121 (by decide)).trans A7_121
  have A8_141 := (eh8.2.1 141 (by decide)).trans A7_141
  have n8 := eh8.2.2.1.trans n7
  have z8 := eh8.2.2.2.trans z7
  clear G7 n7 z7 A7_115 A7_121 A7_141 eh8
  refine xi_iinc (pc' := 140) (x := 1) (v := 2) (lv' := [(1, .int 2), (0, .ref 115)]) kc_36_137 rfl rfl rfl rfl (xm_lt ml_36 rfl) ?_
  refine xi_goto (pc' := 119) kc_36_140 rfl ?_
  refine xi_iload_n (pc' := 120) (x := 2) kc_36_119 rfl rfl ?_
  refine xi_bipush (pc' := 122) (v := 12) kc_36_120 rfl rfl ?_
  refine xi_cmf (pc' := 125) kc_36_122 rfl rfl ?_
  refine xi_aload_n (pc' := 126) (x := 115) kc_36_125 rfl rfl ?_
  refine xi_getfield (pc' := 129) (v := .ref 142) kc_36_126 rfl rfl rfl A8_115 rfl ?_
  refine xi_iload_n (pc' := 130) (x := 2) kc_36_129 rfl rfl ?_
  refine xi_aload_n (pc' := 131) (x := 115) kc_36_130 rfl rfl ?_
  refine xi_getfield (pc' := 134) (v := .ref 128) kc_36_131 rfl rfl rfl A8_115 rfl ?_
  refine xi_iload_n (pc' := 135) (x := 2) kc_36_134 rfl rfl ?_
  refine xi_iaload (pc' := 136) (v := 0) kc_36_135 rfl (G8 128 _ rfl hl_128) (by decide) rfl (xi_in (n := 12) (by decide) (by decide)) rfl ?_
  refine xi_iastore (pc' := 137) (x' := List.replicate 12 0) kc_36_136 rfl (G8 142 _ rfl hl_142) rfl (xi_in (by decide) (by rw [List.length_replicate]; decide)) xa_sr (fun hh9 eh9 => ?_)
  have G9 := xg_keep G8 eh9 hl_142
  have A9_115 := (eh9.2.1 115 (by decide)).trans A8_115
  have A9_121 := (eh9.2.1 121 (by decide)).trans A8_121
  have A9_141 := (eh9.2.1 141 (by decide)).trans A8_141
  have n9 := eh9.2.2.1.trans n8
  have z9 := eh9.2.2.2.trans z8
  clear G8 n8 z8 A8_115 A8_121 A8_141 eh9
  refine xi_iinc (pc' := 140) (x := 2) (v := 3) (lv' := [(1, .int 3), (0, .ref 115)]) kc_36_137 rfl rfl rfl rfl (xm_lt ml_36 rfl) ?_
  refine xi_goto (pc' := 119) kc_36_140 rfl ?_
  refine xi_iload_n (pc' := 120) (x := 3) kc_36_119 rfl rfl ?_
  refine xi_bipush (pc' := 122) (v := 12) kc_36_120 rfl rfl ?_
  refine xi_cmf (pc' := 125) kc_36_122 rfl rfl ?_
  refine xi_aload_n (pc' := 126) (x := 115) kc_36_125 rfl rfl ?_
  refine xi_getfield (pc' := 129) (v := .ref 142) kc_36_126 rfl rfl rfl A9_115 rfl ?_
  refine xi_iload_n (pc' := 130) (x := 3) kc_36_129 rfl rfl ?_
  refine xi_aload_n (pc' := 131) (x := 115) kc_36_130 rfl rfl ?_
  refine xi_getfield (pc' := 134) (v := .ref 128) kc_36_131 rfl rfl rfl A9_115 rfl ?_
  refine xi_iload_n (pc' := 135) (x := 3) kc_36_134 rfl rfl ?_
  refine xi_iaload (pc' := 136) (v := 0) kc_36_135 rfl (G9 128 _ rfl hl_128) (by decide) rfl (xi_in (n := 12) (by decide) (by decide)) rfl ?_
  refine xi_iastore (pc' := 137) (x' := List.replicate 12 0) kc_36_136 rfl (G9 142 _ rfl hl_142) rfl (xi_in (by decide) (by rw [List.length_replicate]; decide)) xa_sr (fun hh10 eh10 => ?_)
  have G10 := xg_keep G9 eh10 hl_142
  have A10_115 := (eh10.2.1 115 (by decide)).trans A9_115
  have A10_121 := (eh10.2.1 121 (by decide)).trans A9_121
  have A10_141 := (eh10.2.1 141 (by decide)).trans A9_141
  have n10 := eh10.2.2.1.trans n9
  have z10 := eh10.2.2.2.trans z9
  clear G9 n9 z9 A9_115 A9_121 A9_141 eh10
  refine xi_iinc (pc' := 140) (x := 3) (v := 4) (lv' := [(1, .int 4), (0, .ref 115)]) kc_36_137 rfl rfl rfl rfl (xm_lt ml_36 rfl) ?_
  refine xi_goto (pc' := 119) kc_36_140 rfl ?_
  refine xi_iload_n (pc' := 120) (x := 4) kc_36_119 rfl rfl ?_
  refine xi_bipush (pc' := 122) (v := 12) kc_36_120 rfl rfl ?_
  refine xi_cmf (pc' := 125) kc_36_122 rfl rfl ?_
  refine xi_aload_n (pc' := 126) (x := 115) kc_36_125 rfl rfl ?_
  refine xi_getfield (pc' := 129) (v := .ref 142) kc_36_126 rfl rfl rfl A10_115 rfl ?_
  refine xi_iload_n (pc' := 130) (x := 4) kc_36_129 rfl rfl ?_
  refine xi_aload_n (pc' := 131) (x := 115) kc_36_130 rfl rfl ?_
  refine xi_getfield (pc' := 134) (v := .ref 128) kc_36_131 rfl rfl rfl A10_115 rfl ?_
  refine xi_iload_n (pc' := 135) (x := 4) kc_36_134 rfl rfl ?_
  refine xi_iaload (pc' := 136) (v := 0) kc_36_135 rfl (G10 128 _ rfl hl_128) (by decide) rfl (xi_in (n := 12) (by decide) (by decide)) rfl ?_
  refine xi_iastore (pc' := 137) (x' := List.replicate 12 0) kc_36_136 rfl (G10 142 _ rfl hl_142) rfl (xi_in (by decide) (by rw [List.length_replicate]; decide)) xa_sr (fun hh11 eh11 => ?_)
  have G11 := xg_keep G10 eh11 hl_142
  have A11_115 := (eh11.2.1 115 (by decide)).trans A10_115
  have A11_121 := (eh11.2.1 121 (by decide)).trans A10_121
  have A11_141 := (eh11.2.1 141 (by decide)).trans A10_141
  have n11 := eh11.2.2.1.trans n10
  have z11 := eh11.2.2.2.trans z10
  clear G10 n10 z10 A10_115 A10_121 A10_141 eh11
  refine xi_iinc (pc' := 140) (x := 4) (v := 5) (lv' := [(1, .int 5), (0, .ref 115)]) kc_36_137 rfl rfl rfl rfl (xm_lt ml_36 rfl) ?_
  refine xi_goto (pc' := 119) kc_36_140 rfl ?_
  refine xi_iload_n (pc' := 120) (x := 5) kc_36_119 rfl rfl ?_
  refine xi_bipush (pc' := 122) (v := 12) kc_36_120 rfl rfl ?_
  refine xi_cmf (pc' := 125) kc_36_122 rfl rfl ?_
  refine xi_aload_n (pc' := 126) (x := 115) kc_36_125 rfl rfl ?_
  refine xi_getfield (pc' := 129) (v := .ref 142) kc_36_126 rfl rfl rfl A11_115 rfl ?_
  refine xi_iload_n (pc' := 130) (x := 5) kc_36_129 rfl rfl ?_
  refine xi_aload_n (pc' := 131) (x := 115) kc_36_130 rfl rfl ?_
  refine xi_getfield (pc' := 134) (v := .ref 128) kc_36_131 rfl rfl rfl A11_115 rfl ?_
  refine xi_iload_n (pc' := 135) (x := 5) kc_36_134 rfl rfl ?_
  refine xi_iaload (pc' := 136) (v := 0) kc_36_135 rfl (G11 128 _ rfl hl_128) (by decide) rfl (xi_in (n := 12) (by decide) (by decide)) rfl ?_
  refine xi_iastore (pc' := 137) (x' := List.replicate 12 0) kc_36_136 rfl (G11 142 _ rfl hl_142) rfl (xi_in (by decide) (by rw [List.length_replicate]; decide)) xa_sr (fun hh12 eh12 => ?_)
  have G12 := xg_keep G11 eh12 hl_142
  have A12_115 := (eh12.2.1 115 (by decide)).trans A11_115
  have A12_121 := (eh12.2.1 121 (by decide)).trans A11_121
  have A12_141 := (eh12.2.1 141 (by decide)).trans A11_141
  have n12 := eh12.2.2.1.trans n11
  have z12 := eh12.2.2.2.trans z11
  clear G11 n11 z11 A11_115 A11_121 A11_141 eh12
  refine xi_iinc (pc' := 140) (x := 5) (v := 6) (lv' := [(1, .int 6), (0, .ref 115)]) kc_36_137 rfl rfl rfl rfl (xm_lt ml_36 rfl) ?_
  refine xi_goto (pc' := 119) kc_36_140 rfl ?_
  refine xi_iload_n (pc' := 120) (x := 6) kc_36_119 rfl rfl ?_
  refine xi_bipush (pc' := 122) (v := 12) kc_36_120 rfl rfl ?_
  refine xi_cmf (pc' := 125) kc_36_122 rfl rfl ?_
  refine xi_aload_n (pc' := 126) (x := 115) kc_36_125 rfl rfl ?_
  refine xi_getfield (pc' := 129) (v := .ref 142) kc_36_126 rfl rfl rfl A12_115 rfl ?_
  refine xi_iload_n (pc' := 130) (x := 6) kc_36_129 rfl rfl ?_
  refine xi_aload_n (pc' := 131) (x := 115) kc_36_130 rfl rfl ?_
  refine xi_getfield (pc' := 134) (v := .ref 128) kc_36_131 rfl rfl rfl A12_115 rfl ?_
  refine xi_iload_n (pc' := 135) (x := 6) kc_36_134 rfl rfl ?_
  refine xi_iaload (pc' := 136) (v := 0) kc_36_135 rfl (G12 128 _ rfl hl_128) (by decide) rfl (xi_in (n := 12) (by decide) (by decide)) rfl ?_
  refine xi_iastore (pc' := 137) (x' := List.replicate 12 0) kc_36_136 rfl (G12 142 _ rfl hl_142) rfl (xi_in (by decide) (by rw [List.length_replicate]; decide)) xa_sr (fun hh13 eh13 => ?_)
  have G13 := xg_keep G12 eh13 hl_142
  have A13_115 := (eh13.2.1 115 (by decide)).trans A12_115
  have A13_121 := (eh13.2.1 121 (by decide)).trans A12_121
  have A13_141 := (eh13.2.1 141 (by decide)).trans A12_141
  have n13 := eh13.2.2.1.trans n12
  have z13 := eh13.2.2.2.trans z12
  clear G12 n12 z12 A12_115 A12_121 A12_141 eh13
  refine xi_iinc (pc' := 140) (x := 6) (v := 7) (lv' := [(1, .int 7), (0, .ref 115)]) kc_36_137 rfl rfl rfl rfl (xm_lt ml_36 rfl) ?_
  refine xi_goto (pc' := 119) kc_36_140 rfl ?_
  refine xi_iload_n (pc' := 120) (x := 7) kc_36_119 rfl rfl ?_
  refine xi_bipush (pc' := 122) (v := 12) kc_36_120 rfl rfl ?_
  refine xi_cmf (pc' := 125) kc_36_122 rfl rfl ?_
  refine xi_aload_n (pc' := 126) (x := 115) kc_36_125 rfl rfl ?_
  refine xi_getfield (pc' := 129) (v := .ref 142) kc_36_126 rfl rfl rfl A13_115 rfl ?_
  refine xi_iload_n (pc' := 130) (x := 7) kc_36_129 rfl rfl ?_
  refine xi_aload_n (pc' := 131) (x := 115) kc_36_130 rfl rfl ?_
  refine xi_getfield (pc' := 134) (v := .ref 128) kc_36_131 rfl rfl rfl A13_115 rfl ?_
  refine xi_iload_n (pc' := 135) (x := 7) kc_36_134 rfl rfl ?_
  refine xi_iaload (pc' := 136) (v := 0) kc_36_135 rfl (G13 128 _ rfl hl_128) (by decide) rfl (xi_in (n := 12) (by decide) (by decide)) rfl ?_
  refine xi_iastore (pc' := 137) (x' := List.replicate 12 0) kc_36_136 rfl (G13 142 _ rfl hl_142) rfl (xi_in (by decide) (by rw [List.length_replicate]; decide)) xa_sr (fun hh14 eh14 => ?_)
  have G14 := xg_keep G13 eh14 hl_142
  have A14_115 := (eh14.2.1 115 (by decide)).trans A13_115
  have A14_121 := (eh14.2.1 121 (by decide)).trans A13_121
  have A14_141 := (eh14.2.1 141 (by decide)).trans A13_141
  have n14 := eh14.2.2.1.trans n13
  have z14 := eh14.2.2.2.trans z13
  clear G13 n13 z13 A13_115 A13_121 A13_141 eh14
  refine xi_iinc (pc' := 140) (x := 7) (v := 8) (lv' := [(1, .int 8), (0, .ref 115)]) kc_36_137 rfl rfl rfl rfl (xm_lt ml_36 rfl) ?_
  refine xi_goto (pc' := 119) kc_36_140 rfl ?_
  refine xi_iload_n (pc' := 120) (x := 8) kc_36_119 rfl rfl ?_
  refine xi_bipush (pc' := 122) (v := 12) kc_36_120 rfl rfl ?_
  refine xi_cmf (pc' := 125) kc_36_122 rfl rfl ?_
  refine xi_aload_n (pc' := 126) (x := 115) kc_36_125 rfl rfl ?_
  refine xi_getfield (pc' := 129) (v := .ref 142) kc_36_126 rfl rfl rfl A14_115 rfl ?_
  refine xi_iload_n (pc' := 130) (x := 8) kc_36_129 rfl rfl ?_
  refine xi_aload_n (pc' := 131) (x := 115) kc_36_130 rfl rfl ?_
  refine xi_getfield (pc' := 134) (v := .ref 128) kc_36_131 rfl rfl rfl A14_115 rfl ?_
  refine xi_iload_n (pc' := 135) (x := 8) kc_36_134 rfl rfl ?_
  refine xi_iaload (pc' := 136) (v := 0) kc_36_135 rfl (G14 128 _ rfl hl_128) (by decide) rfl (xi_in (n := 12) (by decide) (by decide)) rfl ?_
  refine xi_iastore (pc' := 137) (x' := List.replicate 12 0) kc_36_136 rfl (G14 142 _ rfl hl_142) rfl (xi_in (by decide) (by rw [List.length_replicate]; decide)) xa_sr (fun hh15 eh15 => ?_)
  have G15 := xg_keep G14 eh15 hl_142
  have A15_115 := (eh15.2.1 115 (by decide)).trans A14_115
  have A15_121 := (eh15.2.1 121 (by decide)).trans A14_121
  have A15_141 := (eh15.2.1 141 (by decide)).trans A14_141
  have n15 := eh15.2.2.1.trans n14
  have z15 := eh15.2.2.2.trans z14
  clear G14 n14 z14 A14_115 A14_121 A14_141 eh15
  refine xi_iinc (pc' := 140) (x := 8) (v := 9) (lv' := [(1, .int 9), (0, .ref 115)]) kc_36_137 rfl rfl rfl rfl (xm_lt ml_36 rfl) ?_
  refine xi_goto (pc' := 119) kc_36_140 rfl ?_
  refine xi_iload_n (pc' := 120) (x := 9) kc_36_119 rfl rfl ?_
  refine xi_bipush (pc' := 122) (v := 12) kc_36_120 rfl rfl ?_
  refine xi_cmf (pc' := 125) kc_36_122 rfl rfl ?_
  refine xi_aload_n (pc' := 126) (x := 115) kc_36_125 rfl rfl ?_
  refine xi_getfield (pc' := 129) (v := .ref 142) kc_36_126 rfl rfl rfl A15_115 rfl ?_
  refine xi_iload_n (pc' := 130) (x := 9) kc_36_129 rfl rfl ?_
  refine xi_aload_n (pc' := 131) (x := 115) kc_36_130 rfl rfl ?_
  refine xi_getfield (pc' := 134) (v := .ref 128) kc_36_131 rfl rfl rfl A15_115 rfl ?_
  refine xi_iload_n (pc' := 135) (x := 9) kc_36_134 rfl rfl ?_
  refine xi_iaload (pc' := 136) (v := 0) kc_36_135 rfl (G15 128 _ rfl hl_128) (by decide) rfl (xi_in (n := 12) (by decide) (by decide)) rfl ?_
  refine xi_iastore (pc' := 137) (x' := List.replicate 12 0) kc_36_136 rfl (G15 142 _ rfl hl_142) rfl (xi_in (by decide) (by rw [List.length_replicate]; decide)) xa_sr (fun hh16 eh16 => ?_)
  have G16 := xg_keep G15 eh16 hl_142
  have A16_115 := (eh16.2.1 115 (by decide)).trans A15_115
  have A16_121 := (eh16.2.1 121 (by decide)).trans A15_121
  have A16_141 := (eh16.2.1 141 (by decide)).trans A15_141
  have n16 := eh16.2.2.1.trans n15
  have z16 := eh16.2.2.2.trans z15
  clear G15 n15 z15 A15_115 A15_121 A15_141 eh16
  refine xi_iinc (pc' := 140) (x := 9) (v := 10) (lv' := [(1, .int 10), (0, .ref 115)]) kc_36_137 rfl rfl rfl rfl (xm_lt ml_36 rfl) ?_
  refine xi_goto (pc' := 119) kc_36_140 rfl ?_
  refine xi_iload_n (pc' := 120) (x := 10) kc_36_119 rfl rfl ?_
  refine xi_bipush (pc' := 122) (v := 12) kc_36_120 rfl rfl ?_
  refine xi_cmf (pc' := 125) kc_36_122 rfl rfl ?_
  refine xi_aload_n (pc' := 126) (x := 115) kc_36_125 rfl rfl ?_
  refine xi_getfield (pc' := 129) (v := .ref 142) kc_36_126 rfl rfl rfl A16_115 rfl ?_
  refine xi_iload_n (pc' := 130) (x := 10) kc_36_129 rfl rfl ?_
  refine xi_aload_n (pc' := 131) (x := 115) kc_36_130 rfl rfl ?_
  refine xi_getfield (pc' := 134) (v := .ref 128) kc_36_131 rfl rfl rfl A16_115 rfl ?_
  refine xi_iload_n (pc' := 135) (x := 10) kc_36_134 rfl rfl ?_
  refine xi_iaload (pc' := 136) (v := 0) kc_36_135 rfl (G16 128 _ rfl hl_128) (by decide) rfl (xi_in (n := 12) (by decide) (by decide)) rfl ?_
  refine xi_iastore (pc' := 137) (x' := List.replicate 12 0) kc_36_136 rfl (G16 142 _ rfl hl_142) rfl (xi_in (by decide) (by rw [List.length_replicate]; decide)) xa_sr (fun hh17 eh17 => ?_)
  have G17 := xg_keep G16 eh17 hl_142
  have A17_115 := (eh17.2.1 115 (by decide)).trans A16_115
  have A17_121 := (eh17.2.1 121 (by decide)).trans A16_121
  have A17_141 := (eh17.2.1 141 (by decide)).trans A16_141
  have n17 := eh17.2.2.1.trans n16
  have z17 := eh17.2.2.2.trans z16
  clear G16 n16 z16 A16_115 A16_121 A16_141 eh17
  refine xi_iinc (pc' := 140) (x := 10) (v := 11) (lv' := [(1, .int 11), (0, .ref 115)]) kc_36_137 rfl rfl rfl rfl (xm_lt ml_36 rfl) ?_
  refine xi_goto (pc' := 119) kc_36_140 rfl ?_
  refine xi_iload_n (pc' := 120) (x := 11) kc_36_119 rfl rfl ?_
  refine xi_bipush (pc' := 122) (v := 12) kc_36_120 rfl rfl ?_
  refine xi_cmf (pc' := 125) kc_36_122 rfl rfl ?_
  refine xi_aload_n (pc' := 126) (x := 115) kc_36_125 rfl rfl ?_
  refine xi_getfield (pc' := 129) (v := .ref 142) kc_36_126 rfl rfl rfl A17_115 rfl ?_
  refine xi_iload_n (pc' := 130) (x := 11) kc_36_129 rfl rfl ?_
  refine xi_aload_n (pc' := 131) (x := 115) kc_36_130 rfl rfl ?_
  refine xi_getfield (pc' := 134) (v := .ref 128) kc_36_131 rfl rfl rfl A17_115 rfl ?_
  refine xi_iload_n (pc' := 135) (x := 11) kc_36_134 rfl rfl ?_
  refine xi_iaload (pc' := 136) (v := 0) kc_36_135 rfl (G17 128 _ rfl hl_128) (by decide) rfl (xi_in (n := 12) (by decide) (by decide)) rfl ?_
  refine xi_iastore (pc' := 137) (x' := List.replicate 12 0) kc_36_136 rfl (G17 142 _ rfl hl_142) rfl (xi_in (by decide) (by rw [List.length_replicate]; decide)) xa_sr (fun hh18 eh18 => ?_)
  have G18 := xg_keep G17 eh18 hl_142
  have A18_115 := (eh18.2.1 115 (by decide)).trans A17_115
  have A18_121 := (eh18.2.1 121 (by decide)).trans A17_121
  have A18_141 := (eh18.2.1 141 (by decide)).trans A17_141
  have n18 := eh18.2.2.1.trans n17
  have z18 := eh18.2.2.2.trans z17
  clear G17 n17 z17 A17_115 A17_121 A17_141 eh18
  refine xi_iinc (pc' := 140) (x := 11) (v := 12) (lv' := [(1, .int 12), (0, .ref 115)]) kc_36_137 rfl rfl rfl rfl (xm_lt ml_36 rfl) ?_
  refine xi_goto (pc' := 119) kc_36_140 rfl ?_
  refine xi_iload_n (pc' := 120) (x := 12) kc_36_119 rfl rfl ?_
  refine xi_bipush (pc' := 122) (v := 12) kc_36_120 rfl rfl ?_
  refine xi_cmt (pc' := 143) kc_36_122 rfl rfl ?_
  exact kk w0 w1 w2 w3 w4 w5 hh18 (by first | omega | decide) (by first | omega | decide) (by first | omega | decide) (by first | omega | decide) (by first | omega | decide) (by first | omega | decide) (by first | omega | decide) (by first | omega | decide) (by first | omega | decide) (by first | omega | decide) (by first | omega | decide) (by first | omega | decide) G18 A18_115 A18_121 A18_141 n18 z18
set_option maxHeartbeats 8000000 in
set_option maxRecDepth 20000 in
theorem hb_one {J : xe_J} {ov : List (List Int32)} {d N Z : Nat} (hJ : ∀ d mj as h, mj ≠ xe_loff → J d mj as h = none) {Q : Option Value → xe_H → Prop} {hr w0 w1 w2 w3 w4 w5 cn y0 y1 y2 y3 y4 y5 : Int32} {h : xe_H} (h_0 : 0 ≤ y0.toInt) (h_1 : 0 ≤ y1.toInt) (h_2 : 0 ≤ y2.toInt) (h_3 : 0 ≤ y3.toInt) (h_4 : 0 ≤ y4.toInt) (h_5 : 0 ≤ y5.toInt) (h_6 : y0.toInt ≤ 880) (h_7 : y1.toInt ≤ 880) (h_8 : y2.toInt ≤ 880) (h_9 : y3.toInt ≤ 880) (h_10 : y4.toInt ≤ 880) (h_11 : y5.toInt ≤ 880) (h_12 : 0 ≤ hr.toInt) (h_13 : hr.toInt ≤ 599) (G0 : xg [0, 64, 115, 121, 141] h) (A0_115 : h[115]? = some (.inr (12, [.int 0, .int hr, .ref 116, .ref 117, .ref 118, .ref 119, .ref 120, .ref 121, .ref 122, .ref 123, .ref 124, .ref 125, .ref 126, .ref 127, .ref 128, .ref 129, .int 4, .ref 130, .int 0, .ref 131, .ref 132, .ref 133, .ref 134, .int 0, .ref 135, .ref 136, .ref 137, .ref 138, .ref 139, .ref 140, .ref 141, .ref 142, .int cn, .int 0, .int 0, .ref 143, .ref 144, .ref 145, .ref 146, .ref 147, .ref 148, .int 0, .ref 149, .ref 150, .ref 151, .int 0, .ref 152, .ref 153, .ref 154, .ref 155, .ref 156, .ref 157, .ref 158, .ref 159, .int 0, .ref 160, .int 0, .ref 161, .ref 162, .ref 163, .ref 164, .int 0, .ref 165, .ref 166]))) (A0_121 : h[121]? = some (.inl (0, .inl ([w0, w1, w2, w3, w4, w5])))) (A0_141 : h[141]? = some (.inl (0, .inl ([y0, y1, y2, y3, y4, y5])))) (n0 : h.length = N) (z0 : xe_sz h = Z) (kk : ∀ (cn_ y0_ y1_ y2_ y3_ y4_ y5_ : Int32) (h1 : xe_H), 0 ≤ y0_.toInt → 0 ≤ y1_.toInt → 0 ≤ y2_.toInt → 0 ≤ y3_.toInt → 0 ≤ y4_.toInt → 0 ≤ y5_.toInt → y0_.toInt ≤ 880 → y1_.toInt ≤ 880 → y2_.toInt ≤ 880 → y3_.toInt ≤ 880 → y4_.toInt ≤ 880 → y5_.toInt ≤ 880 → xg [0, 64, 115, 121, 141] h1 → h1[115]? = some (.inr (12, [.int 0, .int hr, .ref 116, .ref 117, .ref 118, .ref 119, .ref 120, .ref 121, .ref 122, .ref 123, .ref 124, .ref 125, .ref 126, .ref 127, .ref 128, .ref 129, .int 4, .ref 130, .int 0, .ref 131, .ref 132, .ref 133, .ref 134, .int 0, .ref 135, .ref 136, .ref 137, .ref 138, .ref 139, .ref 140, .ref 141, .ref 142, .int cn_, .int 0, .int 0, .ref 143, .ref 144, .ref 145, .ref 146, .ref 147, .ref 148, .int 0, .ref 149, .ref 150, .ref 151, .int 0, .ref 152, .ref 153, .ref 154, .ref 155, .ref 156, .ref 157, .ref 158, .ref 159, .int 0, .ref 160, .int 0, .ref 161, .ref 162, .ref 163, .ref 164, .int 0, .ref 165, .ref 166])) → h1[121]? = some (.inl (0, .inl ([w0, w1, w2, w3, w4, w5]))) → h1[141]? = some (.inl (0, .inl ([y0_, y1_, y2_, y3_, y4_, y5_]))) → h1.length = N → xe_sz h1 = Z → xw J ov (d + 12) 36 (177, [(1, .int 12), (0, .ref 115)], [], h1) Q) : xw J ov (d + 12) 36 (143, [(1, .int 12), (0, .ref 115)], [], h) Q := by
  refine xi_aload_n (pc' := 144) (x := 115) kc_36_143 rfl rfl ?_
  refine xi_aload_n (pc' := 145) (x := 115) kc_36_144 rfl rfl ?_
  refine xi_aload_n (pc' := 146) (x := 115) kc_36_145 rfl rfl ?_
  refine xi_getfield (pc' := 149) (v := .int hr) kc_36_146 rfl rfl rfl A0_115 rfl ?_
  refine xi_virtual (mj := 20) (as := [.int hr]) (st1 := [.ref 115]) (lv0 := [(0, .ref 115), (1, .int hr)]) kc_36_149 rfl rfl rfl rfl rfl A0_115 (Nat.le_of_ble_eq_true rfl) (hJ _ _ _ _ (by decide)) (xm_le ml_20 rfl) rfl ?_
  refine lw_cold (o := 115) (c := 123) A0_115 rfl (by decide) (G0 123 _ rfl hl_123) ?_
  show xw J ov (d + 12) 36 (152, [(1, .int 12), (0, .ref 115)], [.int 5, .ref 115], h) _
  refine xi_putfield (pc' := 155) (fs' := [.int 0, .int hr, .ref 116, .ref 117, .ref 118, .ref 119, .ref 120, .ref 121, .ref 122, .ref 123, .ref 124, .ref 125, .ref 126, .ref 127, .ref 128, .ref 129, .int 4, .ref 130, .int 0, .ref 131, .ref 132, .ref 133, .ref 134, .int 0, .ref 135, .ref 136, .ref 137, .ref 138, .ref 139, .ref 140, .ref 141, .ref 142, .int 5, .int 0, .int 0, .ref 143, .ref 144, .ref 145, .ref 146, .ref 147, .ref 148, .int 0, .ref 149, .ref 150, .ref 151, .int 0, .ref 152, .ref 153, .ref 154, .ref 155, .ref 156, .ref 157, .ref 158, .ref 159, .int 0, .ref 160, .int 0, .ref 161, .ref 162, .ref 163, .ref 164, .int 0, .ref 165, .ref 166]) kc_36_152 rfl rfl rfl A0_115 rfl rfl rfl (Nat.le_of_ble_eq_true rfl) rfl (fun hh1 eh1 => ?_)
  have G1 := xg_skip G0 eh1 rfl
  have A1_115 := eh1.1
  have A1_121 := (eh1.2.1 121 (by decide)).trans A0_121
  have A1_141 := (eh1.2.1 141 (by decide)).trans A0_141
  have n1 := eh1.2.2.1.trans n0
  have z1 := eh1.2.2.2.trans z0
  clear G0 n0 z0 A0_115 A0_121 A0_141 eh1
  refine xi_aload_n (pc' := 156) (x := 115) kc_36_155 rfl rfl ?_
  refine xi_aload_n (pc' := 157) (x := 115) kc_36_156 rfl rfl ?_
  refine xi_aload_n (pc' := 158) (x := 115) kc_36_157 rfl rfl ?_
  refine xi_getfield (pc' := 161) (v := .int hr) kc_36_158 rfl rfl rfl A1_115 rfl ?_
  refine xi_virtual (mj := 21) (as := [.int hr]) (st1 := [.ref 115]) (lv0 := [(0, .ref 115), (1, .int hr)]) kc_36_161 rfl rfl rfl rfl rfl A1_115 (Nat.le_of_ble_eq_true rfl) (hJ _ _ _ _ (by decide)) (xm_le ml_21 rfl) rfl ?_
  refine lw_rain (o := 115) (c := 124) A1_115 rfl (by decide) (G1 124 _ rfl hl_124) ?_
  show xw J ov (d + 12) 36 (164, [(1, .int 12), (0, .ref 115)], [.int 0, .ref 115], hh1) _
  refine xi_putfield (pc' := 167) (fs' := [.int 0, .int hr, .ref 116, .ref 117, .ref 118, .ref 119, .ref 120, .ref 121, .ref 122, .ref 123, .ref 124, .ref 125, .ref 126, .ref 127, .ref 128, .ref 129, .int 4, .ref 130, .int 0, .ref 131, .ref 132, .ref 133, .ref 134, .int 0, .ref 135, .ref 136, .ref 137, .ref 138, .ref 139, .ref 140, .ref 141, .ref 142, .int 5, .int 0, .int 0, .ref 143, .ref 144, .ref 145, .ref 146, .ref 147, .ref 148, .int 0, .ref 149, .ref 150, .ref 151, .int 0, .ref 152, .ref 153, .ref 154, .ref 155, .ref 156, .ref 157, .ref 158, .ref 159, .int 0, .ref 160, .int 0, .ref 161, .ref 162, .ref 163, .ref 164, .int 0, .ref 165, .ref 166]) kc_36_164 rfl rfl rfl A1_115 rfl rfl rfl (Nat.le_of_ble_eq_true rfl) rfl (fun hh2 eh2 => ?_)
  have G2 := xg_skip G1 eh2 rfl
  have A2_115 := eh2.1
  have A2_121 := (eh2.2.1 121 (by decide)).trans A1_121
  have A2_141 := (eh2.2.1 141 (by decide)).trans A1_141
  have n2 := eh2.2.2.1.trans n1
  have z2 := eh2.2.2.2.trans z1
  clear G1 n1 z1 A1_115 A1_121 A1_141 eh2
  refine xi_aload_n (pc' := 168) (x := 115) kc_36_167 rfl rfl ?_
  refine xi_iconst (pc' := 169) (v := 0) kc_36_168 rfl rfl ?_
  refine xi_iconst (pc' := 170) (v := 1) kc_36_169 rfl rfl ?_
  refine xi_aload_n (pc' := 171) (x := 115) kc_36_170 rfl rfl ?_
  refine xi_getfield (pc' := 174) (v := .int hr) kc_36_171 rfl rfl rfl A2_115 rfl ?_
  refine xi_virtual (mj := 37) (as := [.int 0, .int 1, .int hr]) (st1 := []) (lv0 := [(0, .ref 115), (1, .int 0), (2, .int 1), (3, .int hr)]) kc_36_174 rfl rfl rfl rfl rfl A2_115 (Nat.le_of_ble_eq_true rfl) (hJ _ _ _ _ (by decide)) (xm_le ml_37 rfl) rfl ?_
  refine hb_hour hJ (by first | omega | decide) (by first | omega | decide) (by first | omega | decide) (by first | omega | decide) (by first | omega | decide) (by first | omega | decide) (by first | omega | decide) (by first | omega | decide) (by first | omega | decide) (by first | omega | decide) (by first | omega | decide) (by first | omega | decide) (by first | omega | decide) (by first | omega | decide) G2 A2_115 A2_121 A2_141 n2 z2 (fun y0_3 y1_3 y2_3 y3_3 y4_3 y5_3 hh3 q3_0 q3_1 q3_2 q3_3 q3_4 q3_5 q3_6 q3_7 q3_8 q3_9 q3_10 q3_11 G3 A3_115 A3_121 A3_141 n3 z3 => ?_)
  show xw J ov (d + 12) 36 (177, [(1, .int 12), (0, .ref 115)], [], hh3) _
  exact kk 5 y0_3 y1_3 y2_3 y3_3 y4_3 y5_3 hh3 (by first | omega | decide) (by first | omega | decide) (by first | omega | decide) (by first | omega | decide) (by first | omega | decide) (by first | omega | decide) (by first | omega | decide) (by first | omega | decide) (by first | omega | decide) (by first | omega | decide) (by first | omega | decide) (by first | omega | decide) G3 A3_115 A3_121 A3_141 n3 z3
set_option maxHeartbeats 8000000 in
set_option maxRecDepth 20000 in
theorem hb_back {J : xe_J} {ov : List (List Int32)} {d N Z : Nat} (hJ : ∀ d mj as h, mj ≠ xe_loff → J d mj as h = none) {Q : Option Value → xe_H → Prop} {hr cn y0 y1 y2 y3 y4 y5 w0 w1 w2 w3 w4 w5 : Int32} {h : xe_H} (h_0 : 0 ≤ y0.toInt) (h_1 : 0 ≤ y1.toInt) (h_2 : 0 ≤ y2.toInt) (h_3 : 0 ≤ y3.toInt) (h_4 : 0 ≤ y4.toInt) (h_5 : 0 ≤ y5.toInt) (h_6 : y0.toInt ≤ 880) (h_7 : y1.toInt ≤ 880) (h_8 : y2.toInt ≤ 880) (h_9 : y3.toInt ≤ 880) (h_10 : y4.toInt ≤ 880) (h_11 : y5.toInt ≤ 880) (G0 : xg [0, 64, 115, 121, 141] h) (A0_115 : h[115]? = some (.inr (12, [.int 0, .int hr, .ref 116, .ref 117, .ref 118, .ref 119, .ref 120, .ref 121, .ref 122, .ref 123, .ref 124, .ref 125, .ref 126, .ref 127, .ref 128, .ref 129, .int 4, .ref 130, .int 0, .ref 131, .ref 132, .ref 133, .ref 134, .int 0, .ref 135, .ref 136, .ref 137, .ref 138, .ref 139, .ref 140, .ref 141, .ref 142, .int cn, .int 0, .int 0, .ref 143, .ref 144, .ref 145, .ref 146, .ref 147, .ref 148, .int 0, .ref 149, .ref 150, .ref 151, .int 0, .ref 152, .ref 153, .ref 154, .ref 155, .ref 156, .ref 157, .ref 158, .ref 159, .int 0, .ref 160, .int 0, .ref 161, .ref 162, .ref 163, .ref 164, .int 0, .ref 165, .ref 166]))) (A0_121 : h[121]? = some (.inl (0, .inl ([w0, w1, w2, w3, w4, w5])))) (A0_141 : h[141]? = some (.inl (0, .inl ([y0, y1, y2, y3, y4, y5])))) (n0 : h.length = N) (z0 : xe_sz h = Z) (kk : ∀ (w0_ w1_ w2_ w3_ w4_ w5_ : Int32) (h1 : xe_H), 0 ≤ w0_.toInt → 0 ≤ w1_.toInt → 0 ≤ w2_.toInt → 0 ≤ w3_.toInt → 0 ≤ w4_.toInt → 0 ≤ w5_.toInt → w0_.toInt ≤ 880 → w1_.toInt ≤ 880 → w2_.toInt ≤ 880 → w3_.toInt ≤ 880 → w4_.toInt ≤ 880 → w5_.toInt ≤ 880 → xg [0, 64, 115, 121, 141] h1 → h1[115]? = some (.inr (12, [.int 0, .int hr, .ref 116, .ref 117, .ref 118, .ref 119, .ref 120, .ref 121, .ref 122, .ref 123, .ref 124, .ref 125, .ref 126, .ref 127, .ref 128, .ref 129, .int 4, .ref 130, .int 0, .ref 131, .ref 132, .ref 133, .ref 134, .int 0, .ref 135, .ref 136, .ref 137, .ref 138, .ref 139, .ref 140, .ref 141, .ref 142, .int cn, .int 0, .int 0, .ref 143, .ref 144, .ref 145, .ref 146, .ref 147, .ref 148, .int 0, .ref 149, .ref 150, .ref 151, .int 0, .ref 152, .ref 153, .ref 154, .ref 155, .ref 156, .ref 157, .ref 158, .ref 159, .int 0, .ref 160, .int 0, .ref 161, .ref 162, .ref 163, .ref 164, .int 0, .ref 165, .ref 166])) → h1[121]? = some (.inl (0, .inl ([w0_, w1_, w2_, w3_, w4_, w5_]))) → h1[141]? = some (.inl (0, .inl ([y0, y1, y2, y3, y4, y5]))) → h1.length = N → xe_sz h1 = Z → xw J ov (d + 4) 36 (205, [(1, .int 0), (0, .ref 115)], [], h1) Q) : xw J ov (d + 4) 36 (177, [(1, .int 12), (0, .ref 115)], [], h) Q := by
  refine xi_iconst (pc' := 178) (v := 0) kc_36_177 rfl rfl ?_
  refine xi_istore_n (pc' := 179) (lv' := [(1, .int 0), (0, .ref 115)]) kc_36_178 rfl rfl (xm_lt ml_36 rfl) ?_
  refine xi_iload_n (pc' := 180) (x := 0) kc_36_179 rfl rfl ?_
  refine xi_bipush (pc' := 182) (v := 6) kc_36_180 rfl rfl ?_
  refine xi_cmf (pc' := 185) kc_36_182 rfl rfl ?_
  refine xi_aload_n (pc' := 186) (x := 115) kc_36_185 rfl rfl ?_
  refine xi_getfield (pc' := 189) (v := .ref 121) kc_36_186 rfl rfl rfl A0_115 rfl ?_
  refine xi_iload_n (pc' := 190) (x := 0) kc_36_189 rfl rfl ?_
  refine xi_aload_n (pc' := 191) (x := 115) kc_36_190 rfl rfl ?_
  refine xi_getfield (pc' := 194) (v := .ref 141) kc_36_191 rfl rfl rfl A0_115 rfl ?_
  refine xi_iload_n (pc' := 195) (x := 0) kc_36_194 rfl rfl ?_
  refine xi_iaload (pc' := 196) (v := y0) kc_36_195 rfl A0_141 (by decide) rfl (xi_in (n := 6) (by decide) (by decide)) rfl ?_
  refine xi_iastore (pc' := 197) (x' := [y0, w1, w2, w3, w4, w5]) kc_36_196 rfl A0_121 rfl (xi_in (n := 6) (by decide) (by decide)) rfl (fun hh1 eh1 => ?_)
  have G1 := xg_skip G0 eh1 rfl
  have A1_115 := (eh1.2.1 115 (by decide)).trans A0_115
  have A1_121 := eh1.1
  have A1_141 := (eh1.2.1 141 (by decide)).trans A0_141
  have n1 := eh1.2.2.1.trans n0
  have z1 := eh1.2.2.2.trans z0
  clear G0 n0 z0 A0_115 A0_121 A0_141 eh1
  refine xi_iinc (pc' := 200) (x := 0) (v := 1) (lv' := [(1, .int 1), (0, .ref 115)]) kc_36_197 rfl rfl rfl rfl (xm_lt ml_36 rfl) ?_
  refine xi_goto (pc' := 179) kc_36_200 rfl ?_
  refine xi_iload_n (pc' := 180) (x := 1) kc_36_179 rfl rfl ?_
  refine xi_bipush (pc' := 182) (v := 6) kc_36_180 rfl rfl ?_
  refine xi_cmf (pc' := 185) kc_36_182 rfl rfl ?_
  refine xi_aload_n (pc' := 186) (x := 115) kc_36_185 rfl rfl ?_
  refine xi_getfield (pc' := 189) (v := .ref 121) kc_36_186 rfl rfl rfl A1_115 rfl ?_
  refine xi_iload_n (pc' := 190) (x := 1) kc_36_189 rfl rfl ?_
  refine xi_aload_n (pc' := 191) (x := 115) kc_36_190 rfl rfl ?_
  refine xi_getfield (pc' := 194) (v := .ref 141) kc_36_191 rfl rfl rfl A1_115 rfl ?_
  refine xi_iload_n (pc' := 195) (x := 1) kc_36_194 rfl rfl ?_
  refine xi_iaload (pc' := 196) (v := y1) kc_36_195 rfl A1_141 (by decide) rfl (xi_in (n := 6) (by decide) (by decide)) rfl ?_
  refine xi_iastore (pc' := 197) (x' := [y0, y1, w2, w3, w4, w5]) kc_36_196 rfl A1_121 rfl (xi_in (n := 6) (by decide) (by decide)) rfl (fun hh2 eh2 => ?_)
  have G2 := xg_skip G1 eh2 rfl
  have A2_115 := (eh2.2.1 115 (by decide)).trans A1_115
  have A2_121 := eh2.1
  have A2_141 := (eh2.2.1 141 (by decide)).trans A1_141
  have n2 := eh2.2.2.1.trans n1
  have z2 := eh2.2.2.2.trans z1
  clear G1 n1 z1 A1_115 A1_121 A1_141 eh2
  refine xi_iinc (pc' := 200) (x := 1) (v := 2) (lv' := [(1, .int 2), (0, .ref 115)]) kc_36_197 rfl rfl rfl rfl (xm_lt ml_36 rfl) ?_
  refine xi_goto (pc' := 179) kc_36_200 rfl ?_
  refine xi_iload_n (pc' := 180) (x := 2) kc_36_179 rfl rfl ?_
  refine xi_bipush (pc' := 182) (v := 6) kc_36_180 rfl rfl ?_
  refine xi_cmf (pc' := 185) kc_36_182 rfl rfl ?_
  refine xi_aload_n (pc' := 186) (x := 115) kc_36_185 rfl rfl ?_
  refine xi_getfield (pc' := 189) (v := .ref 121) kc_36_186 rfl rfl rfl A2_115 rfl ?_
  refine xi_iload_n (pc' := 190) (x := 2) kc_36_189 rfl rfl ?_
  refine xi_aload_n (pc' := 191) (x := 115) kc_36_190 rfl rfl ?_
  refine xi_getfield (pc' := 194) (v := .ref 141) kc_36_191 rfl rfl rfl A2_115 rfl ?_
  refine xi_iload_n (pc' := 195) (x := 2) kc_36_194 rfl rfl ?_
  refine xi_iaload (pc' := 196) (v := y2) kc_36_195 rfl A2_141 (by decide) rfl (xi_in (n := 6) (by decide) (by decide)) rfl ?_
  refine xi_iastore (pc' := 197) (x' := [y0, y1, y2, w3, w4, w5]) kc_36_196 rfl A2_121 rfl (xi_in (n := 6) (by decide) (by decide)) rfl (fun hh3 eh3 => ?_)
  have G3 := xg_skip G2 eh3 rfl
  have A3_115 := (eh3.2.1 115 (by decide)).trans A2_115
  have A3_121 := eh3.1
  have A3_141 := (eh3.2.1 141 (by decide)).trans A2_141
  have n3 := eh3.2.2.1.trans n2
  have z3 := eh3.2.2.2.trans z2
  clear G2 n2 z2 A2_115 A2_121 A2_141 eh3
  refine xi_iinc (pc' := 200) (x := 2) (v := 3) (lv' := [(1, .int 3), (0, .ref 115)]) kc_36_197 rfl rfl rfl rfl (xm_lt ml_36 rfl) ?_
  refine xi_goto (pc' := 179) kc_36_200 rfl ?_
  refine xi_iload_n (pc' := 180) (x := 3) kc_36_179 rfl rfl ?_
  refine xi_bipush (pc' := 182) (v := 6) kc_36_180 rfl rfl ?_
  refine xi_cmf (pc' := 185) kc_36_182 rfl rfl ?_
  refine xi_aload_n (pc' := 186) (x := 115) kc_36_185 rfl rfl ?_
  refine xi_getfield (pc' := 189) (v := .ref 121) kc_36_186 rfl rfl rfl A3_115 rfl ?_
  refine xi_iload_n (pc' := 190) (x := 3) kc_36_189 rfl rfl ?_
  refine xi_aload_n (pc' := 191) (x := 115) kc_36_190 rfl rfl ?_
  refine xi_getfield (pc' := 194) (v := .ref 141) kc_36_191 rfl rfl rfl A3_115 rfl ?_
  refine xi_iload_n (pc' := 195) (x := 3) kc_36_194 rfl rfl ?_
  refine xi_iaload (pc' := 196) (v := y3) kc_36_195 rfl A3_141 (by decide) rfl (xi_in (n := 6) (by decide) (by decide)) rfl ?_
  refine xi_iastore (pc' := 197) (x' := [y0, y1, y2, y3, w4, w5]) kc_36_196 rfl A3_121 rfl (xi_in (n := 6) (by decide) (by decide)) rfl (fun hh4 eh4 => ?_)
  have G4 := xg_skip G3 eh4 rfl
  have A4_115 := (eh4.2.1 115 (by decide)).trans A3_115
  have A4_121 := eh4.1
  have A4_141 := (eh4.2.1 141 (by decide)).trans A3_141
  have n4 := eh4.2.2.1.trans n3
  have z4 := eh4.2.2.2.trans z3
  clear G3 n3 z3 A3_115 A3_121 A3_141 eh4
  refine xi_iinc (pc' := 200) (x := 3) (v := 4) (lv' := [(1, .int 4), (0, .ref 115)]) kc_36_197 rfl rfl rfl rfl (xm_lt ml_36 rfl) ?_
  refine xi_goto (pc' := 179) kc_36_200 rfl ?_
  refine xi_iload_n (pc' := 180) (x := 4) kc_36_179 rfl rfl ?_
  refine xi_bipush (pc' := 182) (v := 6) kc_36_180 rfl rfl ?_
  refine xi_cmf (pc' := 185) kc_36_182 rfl rfl ?_
  refine xi_aload_n (pc' := 186) (x := 115) kc_36_185 rfl rfl ?_
  refine xi_getfield (pc' := 189) (v := .ref 121) kc_36_186 rfl rfl rfl A4_115 rfl ?_
  refine xi_iload_n (pc' := 190) (x := 4) kc_36_189 rfl rfl ?_
  refine xi_aload_n (pc' := 191) (x := 115) kc_36_190 rfl rfl ?_
  refine xi_getfield (pc' := 194) (v := .ref 141) kc_36_191 rfl rfl rfl A4_115 rfl ?_
  refine xi_iload_n (pc' := 195) (x := 4) kc_36_194 rfl rfl ?_
  refine xi_iaload (pc' := 196) (v := y4) kc_36_195 rfl A4_141 (by decide) rfl (xi_in (n := 6) (by decide) (by decide)) rfl ?_
  refine xi_iastore (pc' := 197) (x' := [y0, y1, y2, y3, y4, w5]) kc_36_196 rfl A4_121 rfl (xi_in (n := 6) (by decide) (by decide)) rfl (fun hh5 eh5 => ?_)
  have G5 := xg_skip G4 eh5 rfl
  have A5_115 := (eh5.2.1 115 (by decide)).trans A4_115
  have A5_121 := eh5.1
  have A5_141 := (eh5.2.1 141 (by decide)).trans A4_141
  have n5 := eh5.2.2.1.trans n4
  have z5 := eh5.2.2.2.trans z4
  clear G4 n4 z4 A4_115 A4_121 A4_141 eh5
  refine xi_iinc (pc' := 200) (x := 4) (v := 5) (lv' := [(1, .int 5), (0, .ref 115)]) kc_36_197 rfl rfl rfl rfl (xm_lt ml_36 rfl) ?_
  refine xi_goto (pc' := 179) kc_36_200 rfl ?_
  refine xi_iload_n (pc' := 180) (x := 5) kc_36_179 rfl rfl ?_
  refine xi_bipush (pc' := 182) (v := 6) kc_36_180 rfl rfl ?_
  refine xi_cmf (pc' := 185) kc_36_182 rfl rfl ?_
  refine xi_aload_n (pc' := 186) (x := 115) kc_36_185 rfl rfl ?_
  refine xi_getfield (pc' := 189) (v := .ref 121) kc_36_186 rfl rfl rfl A5_115 rfl ?_
  refine xi_iload_n (pc' := 190) (x := 5) kc_36_189 rfl rfl ?_
  refine xi_aload_n (pc' := 191) (x := 115) kc_36_190 rfl rfl ?_
  refine xi_getfield (pc' := 194) (v := .ref 141) kc_36_191 rfl rfl rfl A5_115 rfl ?_
  refine xi_iload_n (pc' := 195) (x := 5) kc_36_194 rfl rfl ?_
  refine xi_iaload (pc' := 196) (v := y5) kc_36_195 rfl A5_141 (by decide) rfl (xi_in (n := 6) (by decide) (by decide)) rfl ?_
  refine xi_iastore (pc' := 197) (x' := [y0, y1, y2, y3, y4, y5]) kc_36_196 rfl A5_121 rfl (xi_in (n := 6) (by decide) (by decide)) rfl (fun hh6 eh6 => ?_)
  have G6 := xg_skip G5 eh6 rfl
  have A6_115 := (eh6.2.1 115 (by decide)).trans A5_115
  have A6_121 := eh6.1
  have A6_141 := (eh6.2.1 141 (by decide)).trans A5_141
  have n6 := eh6.2.2.1.trans n5
  have z6 := eh6.2.2.2.trans z5
  clear G5 n5 z5 A5_115 A5_121 A5_141 eh6
  refine xi_iinc (pc' := 200) (x := 5) (v := 6) (lv' := [(1, .int 6), (0, .ref 115)]) kc_36_197 rfl rfl rfl rfl (xm_lt ml_36 rfl) ?_
  refine xi_goto (pc' := 179) kc_36_200 rfl ?_
  refine xi_iload_n (pc' := 180) (x := 6) kc_36_179 rfl rfl ?_
  refine xi_bipush (pc' := 182) (v := 6) kc_36_180 rfl rfl ?_
  refine xi_cmt (pc' := 203) kc_36_182 rfl rfl ?_
  refine xi_iconst (pc' := 204) (v := 0) kc_36_203 rfl rfl ?_
  refine xi_istore_n (pc' := 205) (lv' := [(1, .int 0), (0, .ref 115)]) kc_36_204 rfl rfl (xm_lt ml_36 rfl) ?_
  exact kk y0 y1 y2 y3 y4 y5 hh6 (by first | omega | decide) (by first | omega | decide) (by first | omega | decide) (by first | omega | decide) (by first | omega | decide) (by first | omega | decide) (by first | omega | decide) (by first | omega | decide) (by first | omega | decide) (by first | omega | decide) (by first | omega | decide) (by first | omega | decide) G6 A6_115 A6_121 A6_141 n6 z6
set_option maxHeartbeats 8000000 in
set_option maxRecDepth 20000 in
theorem hb_marks {J : xe_J} {ov : List (List Int32)} {d N Z : Nat} (hJ : ∀ d mj as h, mj ≠ xe_loff → J d mj as h = none) {Q : Option Value → xe_H → Prop} {hr cn w0 w1 w2 w3 w4 w5 y0 y1 y2 y3 y4 y5 : Int32} (kk : ∀ (j_ : Int32) (h1 : xe_H), xg [0, 64, 115, 121, 141] h1 → h1[115]? = some (.inr (12, [.int 0, .int hr, .ref 116, .ref 117, .ref 118, .ref 119, .ref 120, .ref 121, .ref 122, .ref 123, .ref 124, .ref 125, .ref 126, .ref 127, .ref 128, .ref 129, .int 4, .ref 130, .int 0, .ref 131, .ref 132, .ref 133, .ref 134, .int 0, .ref 135, .ref 136, .ref 137, .ref 138, .ref 139, .ref 140, .ref 141, .ref 142, .int cn, .int 0, .int 0, .ref 143, .ref 144, .ref 145, .ref 146, .ref 147, .ref 148, .int 0, .ref 149, .ref 150, .ref 151, .int 0, .ref 152, .ref 153, .ref 154, .ref 155, .ref 156, .ref 157, .ref 158, .ref 159, .int 0, .ref 160, .int 0, .ref 161, .ref 162, .ref 163, .ref 164, .int 0, .ref 165, .ref 166])) → h1[121]? = some (.inl (0, .inl ([w0, w1, w2, w3, w4, w5]))) → h1[141]? = some (.inl (0, .inl ([y0, y1, y2, y3, y4, y5]))) → h1.length = N → xe_sz h1 = Z → xw J ov (d + 4) 36 (274, [(1, .int j_), (0, .ref 115)], [], h1) Q) : ∀ (m : Nat) (i : Int32) (h : xe_H), 0 ≤ hr.toInt → hr.toInt ≤ 599 → 0 ≤ i.toInt → i.toInt ≤ 12 → 12 ≤ i.toInt + m → xg [0, 64, 115, 121, 141] h → h[115]? = some (.inr (12, [.int 0, .int hr, .ref 116, .ref 117, .ref 118, .ref 119, .ref 120, .ref 121, .ref 122, .ref 123, .ref 124, .ref 125, .ref 126, .ref 127, .ref 128, .ref 129, .int 4, .ref 130, .int 0, .ref 131, .ref 132, .ref 133, .ref 134, .int 0, .ref 135, .ref 136, .ref 137, .ref 138, .ref 139, .ref 140, .ref 141, .ref 142, .int cn, .int 0, .int 0, .ref 143, .ref 144, .ref 145, .ref 146, .ref 147, .ref 148, .int 0, .ref 149, .ref 150, .ref 151, .int 0, .ref 152, .ref 153, .ref 154, .ref 155, .ref 156, .ref 157, .ref 158, .ref 159, .int 0, .ref 160, .int 0, .ref 161, .ref 162, .ref 163, .ref 164, .int 0, .ref 165, .ref 166])) → h[121]? = some (.inl (0, .inl ([w0, w1, w2, w3, w4, w5]))) → h[141]? = some (.inl (0, .inl ([y0, y1, y2, y3, y4, y5]))) → h.length = N → xe_sz h = Z → xw J ov (d + 4) 36 (205, [(1, .int i), (0, .ref 115)], [], h) Q := by
  intro m
  induction m with
  | zero =>
    intro i  h h_0 h_1 h_2 h_3 h_m G0 A0_115 A0_121 A0_141 n0 z0
    refine xi_iload_n (pc' := 206) (x := i) kc_36_205 rfl rfl ?_
    refine xi_bipush (pc' := 208) (v := 12) kc_36_206 rfl rfl ?_
    refine xi_cmt (pc' := 274) kc_36_208 rfl (xc_ge_t (X := i.toInt) (Y := 12) rfl (by decide) (by omega)) ?_
    exact kk i h  G0 A0_115 A0_121 A0_141 n0 z0
  | succ m ih =>
    intro i  h h_0 h_1 h_2 h_3 h_m G0 A0_115 A0_121 A0_141 n0 z0
    refine xi_iload_n (pc' := 206) (x := i) kc_36_205 rfl rfl ?_
    refine xi_bipush (pc' := 208) (v := 12) kc_36_206 rfl rfl ?_
    by_cases c1 : 12 ≤ i.toInt
    · refine xi_cmt (pc' := 274) kc_36_208 rfl (xc_ge_t (X := i.toInt) (Y := 12) rfl (by decide) (by omega)) ?_
      exact kk i h  G0 A0_115 A0_121 A0_141 n0 z0
    · refine xi_cmf (pc' := 211) kc_36_208 rfl (xc_ge_f (X := i.toInt) (Y := 12) rfl (by decide) (by omega)) ?_
      refine xi_aload_n (pc' := 212) (x := 115) kc_36_211 rfl rfl ?_
      refine xi_getfield (pc' := 215) (v := .ref 128) kc_36_212 rfl rfl rfl A0_115 rfl ?_
      refine xi_iload_n (pc' := 216) (x := i) kc_36_215 rfl rfl ?_
      refine xi_aload_n (pc' := 217) (x := 115) kc_36_216 rfl rfl ?_
      refine xi_getfield (pc' := 220) (v := .ref 142) kc_36_217 rfl rfl rfl A0_115 rfl ?_
      refine xi_iload_n (pc' := 221) (x := i) kc_36_220 rfl rfl ?_
      refine xi_iaload (pc' := 222) (v := 0) kc_36_221 rfl (G0 142 _ rfl hl_142) (by decide) rfl (xi_in (by omega) (by simp only [List.length_replicate]; omega)) (xa_rep (by omega) (by omega)) ?_
      refine xi_iastore (pc' := 223) (x' := List.replicate 12 0) kc_36_222 rfl (G0 128 _ rfl hl_128) rfl (xi_in (by omega) (by rw [List.length_replicate]; omega)) xa_sr (fun hh1 eh1 => ?_)
      have G1 := xg_keep G0 eh1 hl_128
      have A1_115 := (eh1.2.1 115 (by decide)).trans A0_115
      have A1_121 := (eh1.2.1 121 (by decide)).trans A0_121
      have A1_141 := (eh1.2.1 141 (by decide)).trans A0_141
      have n1 := eh1.2.2.1.trans n0
      have z1 := eh1.2.2.2.trans z0
      clear G0 n0 z0 A0_115 A0_121 A0_141 eh1
      refine xi_aload_n (pc' := 224) (x := 115) kc_36_223 rfl rfl ?_
      refine xi_getfield (pc' := 227) (v := .ref 129) kc_36_224 rfl rfl rfl A1_115 rfl ?_
      refine xi_iload_n (pc' := 228) (x := i) kc_36_227 rfl rfl ?_
      refine xi_dup2 (pc' := 229) kc_36_228 rfl ⟨rfl, rfl⟩ ?_
      refine xi_iaload (pc' := 230) (v := 0) kc_36_229 rfl (G1 129 _ rfl hl_129) (by decide) rfl (xi_in (by omega) (by simp only [List.length_replicate]; omega)) (xa_rep (by omega) (by omega)) ?_
      refine xi_aload_n (pc' := 231) (x := 115) kc_36_230 rfl rfl ?_
      refine xi_getfield (pc' := 234) (v := .ref 128) kc_36_231 rfl rfl rfl A1_115 rfl ?_
      refine xi_iload_n (pc' := 235) (x := i) kc_36_234 rfl rfl ?_
      refine xi_iaload (pc' := 236) (v := 0) kc_36_235 rfl (G1 128 _ rfl hl_128) (by decide) rfl (xi_in (by omega) (by simp only [List.length_replicate]; omega)) (xa_rep (by omega) (by omega)) ?_
      refine xi_bipush (pc' := 238) (v := 50) kc_36_236 rfl rfl ?_
      refine xi_cmt (pc' := 245) kc_36_238 rfl rfl ?_
      refine xi_iconst (pc' := 246) (v := 0) kc_36_245 rfl rfl ?_
      refine xi_iadd (pc' := 247) (v := 0) kc_36_246 rfl rfl ?_
      refine xi_iastore (pc' := 248) (x' := List.replicate 12 0) kc_36_247 rfl (G1 129 _ rfl hl_129) rfl (xi_in (by omega) (by rw [List.length_replicate]; omega)) xa_sr (fun hh2 eh2 => ?_)
      have G2 := xg_keep G1 eh2 hl_129
      have A2_115 := (eh2.2.1 115 (by decide)).trans A1_115
      have A2_121 := (eh2.2.1 121 (by decide)).trans A1_121
      have A2_141 := (eh2.2.1 141 (by decide)).trans A1_141
      have n2 := eh2.2.2.1.trans n1
      have z2 := eh2.2.2.2.trans z1
      clear G1 n1 z1 A1_115 A1_121 A1_141 eh2
      refine xi_aload_n (pc' := 249) (x := 115) kc_36_248 rfl rfl ?_
      refine xi_getfield (pc' := 252) (v := .ref 130) kc_36_249 rfl rfl rfl A2_115 rfl ?_
      refine xi_bipush (pc' := 254) (v := 12) kc_36_252 rfl rfl ?_
      refine xi_aload_n (pc' := 255) (x := 115) kc_36_254 rfl rfl ?_
      refine xi_getfield (pc' := 258) (v := .int hr) kc_36_255 rfl rfl rfl A2_115 rfl ?_
      obtain ⟨v2, ev2⟩ : ∃ q : Int32, 12 * hr = q := ⟨_, rfl⟩
      have zv2 : v2.toInt = (12) * hr.toInt := by rw [← ev2]; exact (xz_mul (X := 12) (Y := hr.toInt) (by decide) rfl (by omega) (by omega)).trans (by omega)
      refine xi_imul (pc' := 259) (v := v2) kc_36_258 rfl ev2 ?_
      refine xi_iload_n (pc' := 260) (x := i) kc_36_259 rfl rfl ?_
      obtain ⟨v3, ev3⟩ : ∃ q : Int32, v2 + i = q := ⟨_, rfl⟩
      have zv3 : v3.toInt = ((12) * hr.toInt + i.toInt) := by rw [← ev3]; exact (xz_add (X := (12) * hr.toInt) (Y := i.toInt) zv2 rfl (by omega) (by omega)).trans (by omega)
      refine xi_iadd (pc' := 261) (v := v3) kc_36_260 rfl ev3 ?_
      refine xi_aload_n (pc' := 262) (x := 115) kc_36_261 rfl rfl ?_
      refine xi_getfield (pc' := 265) (v := .ref 128) kc_36_262 rfl rfl rfl A2_115 rfl ?_
      refine xi_iload_n (pc' := 266) (x := i) kc_36_265 rfl rfl ?_
      refine xi_iaload (pc' := 267) (v := 0) kc_36_266 rfl (G2 128 _ rfl hl_128) (by decide) rfl (xi_in (by omega) (by simp only [List.length_replicate]; omega)) (xa_rep (by omega) (by omega)) ?_
      refine xi_iastore (pc' := 268) (x' := List.replicate 7200 0) kc_36_267 rfl (G2 130 _ rfl hl_130) rfl (xi_in (by rw [zv3]; omega) (by rw [List.length_replicate]; rw [zv3]; omega)) xa_sr (fun hh3 eh3 => ?_)
      have G3 := xg_keep G2 eh3 hl_130
      have A3_115 := (eh3.2.1 115 (by decide)).trans A2_115
      have A3_121 := (eh3.2.1 121 (by decide)).trans A2_121
      have A3_141 := (eh3.2.1 141 (by decide)).trans A2_141
      have n3 := eh3.2.2.1.trans n2
      have z3 := eh3.2.2.2.trans z2
      clear G2 n2 z2 A2_115 A2_121 A2_141 eh3
      obtain ⟨v4, ev4⟩ : ∃ q : Int32, i + 1 = q := ⟨_, rfl⟩
      have zv4 : v4.toInt = (i.toInt + 1) := by rw [← ev4]; exact (xz_add (X := i.toInt) (Y := 1) rfl (by decide) (by omega) (by omega)).trans (by omega)
      refine xi_iinc (pc' := 271) (x := i) (v := v4) (lv' := [(1, .int v4), (0, .ref 115)]) kc_36_268 rfl rfl ev4 rfl (xm_lt ml_36 rfl) ?_
      refine xi_goto (pc' := 205) kc_36_271 rfl ?_
      exact ih v4  hh3 (by first | omega | decide) (by first | omega | decide) (by first | omega | decide) (by first | omega | decide) (by first | omega | decide) G3 A3_115 A3_121 A3_141 n3 z3
set_option maxHeartbeats 8000000 in
set_option maxRecDepth 20000 in
theorem hb_pass {J : xe_J} {ov : List (List Int32)} {d N Z : Nat} (hJ : ∀ d mj as h, mj ≠ xe_loff → J d mj as h = none) {Q : Option Value → xe_H → Prop} {hr cn w0 w1 w2 w3 w4 w5 y0 y1 y2 y3 y4 y5 : Int32} {h : xe_H} (h_0 : 0 ≤ w0.toInt) (h_1 : 0 ≤ w1.toInt) (h_2 : 0 ≤ w2.toInt) (h_3 : 0 ≤ w3.toInt) (h_4 : 0 ≤ w4.toInt) (h_5 : 0 ≤ w5.toInt) (h_6 : w0.toInt ≤ 880) (h_7 : w1.toInt ≤ 880) (h_8 : w2.toInt ≤ 880) (h_9 : w3.toInt ≤ 880) (h_10 : w4.toInt ≤ 880) (h_11 : w5.toInt ≤ 880) (h_12 : 0 ≤ hr.toInt) (h_13 : hr.toInt ≤ 599) (G0 : xg [0, 64, 115, 121, 141] h) (A0_115 : h[115]? = some (.inr (12, [.int 0, .int hr, .ref 116, .ref 117, .ref 118, .ref 119, .ref 120, .ref 121, .ref 122, .ref 123, .ref 124, .ref 125, .ref 126, .ref 127, .ref 128, .ref 129, .int 4, .ref 130, .int 0, .ref 131, .ref 132, .ref 133, .ref 134, .int 0, .ref 135, .ref 136, .ref 137, .ref 138, .ref 139, .ref 140, .ref 141, .ref 142, .int cn, .int 0, .int 0, .ref 143, .ref 144, .ref 145, .ref 146, .ref 147, .ref 148, .int 0, .ref 149, .ref 150, .ref 151, .int 0, .ref 152, .ref 153, .ref 154, .ref 155, .ref 156, .ref 157, .ref 158, .ref 159, .int 0, .ref 160, .int 0, .ref 161, .ref 162, .ref 163, .ref 164, .int 0, .ref 165, .ref 166]))) (A0_121 : h[121]? = some (.inl (0, .inl ([w0, w1, w2, w3, w4, w5])))) (A0_141 : h[141]? = some (.inl (0, .inl ([y0, y1, y2, y3, y4, y5])))) (n0 : h.length = N) (z0 : xe_sz h = Z) (kk : ∀ (hr_ cn_ w0_ w1_ w2_ w3_ w4_ w5_ y0_ y1_ y2_ y3_ y4_ y5_ : Int32) (h1 : xe_H), 0 ≤ w0_.toInt → 0 ≤ w1_.toInt → 0 ≤ w2_.toInt → 0 ≤ w3_.toInt → 0 ≤ w4_.toInt → 0 ≤ w5_.toInt → w0_.toInt ≤ 880 → w1_.toInt ≤ 880 → w2_.toInt ≤ 880 → w3_.toInt ≤ 880 → w4_.toInt ≤ 880 → w5_.toInt ≤ 880 → hr_.toInt = hr.toInt + 1 → xg [0, 64, 115, 121, 141] h1 → h1[115]? = some (.inr (12, [.int 0, .int hr_, .ref 116, .ref 117, .ref 118, .ref 119, .ref 120, .ref 121, .ref 122, .ref 123, .ref 124, .ref 125, .ref 126, .ref 127, .ref 128, .ref 129, .int 4, .ref 130, .int 0, .ref 131, .ref 132, .ref 133, .ref 134, .int 0, .ref 135, .ref 136, .ref 137, .ref 138, .ref 139, .ref 140, .ref 141, .ref 142, .int cn_, .int 0, .int 0, .ref 143, .ref 144, .ref 145, .ref 146, .ref 147, .ref 148, .int 0, .ref 149, .ref 150, .ref 151, .int 0, .ref 152, .ref 153, .ref 154, .ref 155, .ref 156, .ref 157, .ref 158, .ref 159, .int 0, .ref 160, .int 0, .ref 161, .ref 162, .ref 163, .ref 164, .int 0, .ref 165, .ref 166])) → h1[121]? = some (.inl (0, .inl ([w0_, w1_, w2_, w3_, w4_, w5_]))) → h1[141]? = some (.inl (0, .inl ([y0_, y1_, y2_, y3_, y4_, y5_]))) → h1.length = N → xe_sz h1 = Z → Q (none) h1) : xw J ov (d + 20) 36 (0, [(0, .ref 115)], [], h) Q := by
  refine hb_copy hJ (by first | omega | decide) (by first | omega | decide) (by first | omega | decide) (by first | omega | decide) (by first | omega | decide) (by first | omega | decide) (by first | omega | decide) (by first | omega | decide) (by first | omega | decide) (by first | omega | decide) (by first | omega | decide) (by first | omega | decide) G0 A0_115 A0_121 A0_141 n0 z0 (fun y0_1 y1_1 y2_1 y3_1 y4_1 y5_1 hh1 q1_0 q1_1 q1_2 q1_3 q1_4 q1_5 q1_6 q1_7 q1_8 q1_9 q1_10 q1_11 G1 A1_115 A1_121 A1_141 n1 z1 => ?_)
  show xw J ov (d + 20) 36 (143, [(1, .int 12), (0, .ref 115)], [], hh1) _
  refine hb_one hJ (by first | omega | decide) (by first | omega | decide) (by first | omega | decide) (by first | omega | decide) (by first | omega | decide) (by first | omega | decide) (by first | omega | decide) (by first | omega | decide) (by first | omega | decide) (by first | omega | decide) (by first | omega | decide) (by first | omega | decide) (by first | omega | decide) (by first | omega | decide) G1 A1_115 A1_121 A1_141 n1 z1 (fun cn_2 y0_2 y1_2 y2_2 y3_2 y4_2 y5_2 hh2 q2_0 q2_1 q2_2 q2_3 q2_4 q2_5 q2_6 q2_7 q2_8 q2_9 q2_10 q2_11 G2 A2_115 A2_121 A2_141 n2 z2 => ?_)
  show xw J ov (d + 20) 36 (177, [(1, .int 12), (0, .ref 115)], [], hh2) _
  refine hb_back hJ (by first | omega | decide) (by first | omega | decide) (by first | omega | decide) (by first | omega | decide) (by first | omega | decide) (by first | omega | decide) (by first | omega | decide) (by first | omega | decide) (by first | omega | decide) (by first | omega | decide) (by first | omega | decide) (by first | omega | decide) G2 A2_115 A2_121 A2_141 n2 z2 (fun w0_3 w1_3 w2_3 w3_3 w4_3 w5_3 hh3 q3_0 q3_1 q3_2 q3_3 q3_4 q3_5 q3_6 q3_7 q3_8 q3_9 q3_10 q3_11 G3 A3_115 A3_121 A3_141 n3 z3 => ?_)
  show xw J ov (d + 20) 36 (205, [(1, .int 0), (0, .ref 115)], [], hh3) _
  refine hb_marks hJ (fun j_4 hh4  G4 A4_115 A4_121 A4_141 n4 z4 => ?_) 12 0 hh3 (by first | omega | decide) (by first | omega | decide) (by first | omega | decide) (by first | omega | decide) (by first | omega | decide) G3 A3_115 A3_121 A3_141 n3 z3
  show xw J ov (d + 20) 36 (274, [(1, .int j_4), (0, .ref 115)], [], hh4) _
  refine xi_aload_n (pc' := 275) (x := 115) kc_36_274 rfl rfl ?_
  refine xi_dup (pc' := 276) kc_36_275 rfl rfl ?_
  refine xi_getfield (pc' := 279) (v := .int hr) kc_36_276 rfl rfl rfl A4_115 rfl ?_
  refine xi_iconst (pc' := 280) (v := 1) kc_36_279 rfl rfl ?_
  obtain ⟨v1, ev1⟩ : ∃ q : Int32, hr + 1 = q := ⟨_, rfl⟩
  have zv1 : v1.toInt = (hr.toInt + 1) := by rw [← ev1]; exact (xz_add (X := hr.toInt) (Y := 1) rfl (by decide) (by omega) (by omega)).trans (by omega)
  refine xi_iadd (pc' := 281) (v := v1) kc_36_280 rfl ev1 ?_
  refine xi_putfield (pc' := 284) (fs' := [.int 0, .int v1, .ref 116, .ref 117, .ref 118, .ref 119, .ref 120, .ref 121, .ref 122, .ref 123, .ref 124, .ref 125, .ref 126, .ref 127, .ref 128, .ref 129, .int 4, .ref 130, .int 0, .ref 131, .ref 132, .ref 133, .ref 134, .int 0, .ref 135, .ref 136, .ref 137, .ref 138, .ref 139, .ref 140, .ref 141, .ref 142, .int cn_2, .int 0, .int 0, .ref 143, .ref 144, .ref 145, .ref 146, .ref 147, .ref 148, .int 0, .ref 149, .ref 150, .ref 151, .int 0, .ref 152, .ref 153, .ref 154, .ref 155, .ref 156, .ref 157, .ref 158, .ref 159, .int 0, .ref 160, .int 0, .ref 161, .ref 162, .ref 163, .ref 164, .int 0, .ref 165, .ref 166]) kc_36_281 rfl rfl rfl A4_115 rfl rfl rfl (Nat.le_of_ble_eq_true rfl) rfl (fun hh5 eh5 => ?_)
  have G5 := xg_skip G4 eh5 rfl
  have A5_115 := eh5.1
  have A5_121 := (eh5.2.1 121 (by decide)).trans A4_121
  have A5_141 := (eh5.2.1 141 (by decide)).trans A4_141
  have n5 := eh5.2.2.1.trans n4
  have z5 := eh5.2.2.2.trans z4
  clear G4 n4 z4 A4_115 A4_121 A4_141 eh5
  refine xi_iconst (pc' := 285) (v := 0) kc_36_284 rfl rfl ?_
  refine xi_istore_n (pc' := 286) (lv' := [(1, .int 0), (0, .ref 115)]) kc_36_285 rfl rfl (xm_lt ml_36 rfl) ?_
  refine xi_iload_n (pc' := 287) (x := 0) kc_36_286 rfl rfl ?_
  refine xi_aload_n (pc' := 288) (x := 115) kc_36_287 rfl rfl ?_
  refine xi_getfield (pc' := 291) (v := .int 0) kc_36_288 rfl rfl rfl A5_115 rfl ?_
  refine xi_cmt (pc' := 343) kc_36_291 rfl rfl ?_
  refine xi_aload_n (pc' := 344) (x := 115) kc_36_343 rfl rfl ?_
  refine xi_iconst (pc' := 345) (v := 0) kc_36_344 rfl rfl ?_
  refine xi_putfield (pc' := 348) (fs' := [.int 0, .int v1, .ref 116, .ref 117, .ref 118, .ref 119, .ref 120, .ref 121, .ref 122, .ref 123, .ref 124, .ref 125, .ref 126, .ref 127, .ref 128, .ref 129, .int 4, .ref 130, .int 0, .ref 131, .ref 132, .ref 133, .ref 134, .int 0, .ref 135, .ref 136, .ref 137, .ref 138, .ref 139, .ref 140, .ref 141, .ref 142, .int cn_2, .int 0, .int 0, .ref 143, .ref 144, .ref 145, .ref 146, .ref 147, .ref 148, .int 0, .ref 149, .ref 150, .ref 151, .int 0, .ref 152, .ref 153, .ref 154, .ref 155, .ref 156, .ref 157, .ref 158, .ref 159, .int 0, .ref 160, .int 0, .ref 161, .ref 162, .ref 163, .ref 164, .int 0, .ref 165, .ref 166]) kc_36_345 rfl rfl rfl A5_115 rfl rfl rfl (Nat.le_of_ble_eq_true rfl) rfl (fun hh6 eh6 => ?_)
  have G6 := xg_skip G5 eh6 rfl
  have A6_115 := eh6.1
  have A6_121 := (eh6.2.1 121 (by decide)).trans A5_121
  have A6_141 := (eh6.2.1 141 (by decide)).trans A5_141
  have n6 := eh6.2.2.1.trans n5
  have z6 := eh6.2.2.2.trans z5
  clear G5 n5 z5 A5_115 A5_121 A5_141 eh6
  refine xi_return kc_36_348 mr_36 ?_
  exact kk v1 cn_2 w0_3 w1_3 w2_3 w3_3 w4_3 w5_3 y0_2 y1_2 y2_2 y3_2 y4_2 y5_2 hh6 (by first | omega | decide) (by first | omega | decide) (by first | omega | decide) (by first | omega | decide) (by first | omega | decide) (by first | omega | decide) (by first | omega | decide) (by first | omega | decide) (by first | omega | decide) (by first | omega | decide) (by first | omega | decide) (by first | omega | decide) (by first | omega | decide) G6 A6_115 A6_121 A6_141 n6 z6
set_option maxHeartbeats 8000000 in
set_option maxRecDepth 20000 in
theorem hb_hours {J : xe_J} {ov : List (List Int32)} {d N Z : Nat} (hJ : ∀ d mj as h, mj ≠ xe_loff → J d mj as h = none) {Q : Option Value → xe_H → Prop} {n : Int32} (kk : ∀ (hr_ cn_ w0_ w1_ w2_ w3_ w4_ w5_ y0_ y1_ y2_ y3_ y4_ y5_ : Int32) (h1 : xe_H), hr_.toInt = n.toInt → xg [0, 64, 115, 121, 141] h1 → h1[115]? = some (.inr (12, [.int 0, .int hr_, .ref 116, .ref 117, .ref 118, .ref 119, .ref 120, .ref 121, .ref 122, .ref 123, .ref 124, .ref 125, .ref 126, .ref 127, .ref 128, .ref 129, .int 4, .ref 130, .int 0, .ref 131, .ref 132, .ref 133, .ref 134, .int 0, .ref 135, .ref 136, .ref 137, .ref 138, .ref 139, .ref 140, .ref 141, .ref 142, .int cn_, .int 0, .int 0, .ref 143, .ref 144, .ref 145, .ref 146, .ref 147, .ref 148, .int 0, .ref 149, .ref 150, .ref 151, .int 0, .ref 152, .ref 153, .ref 154, .ref 155, .ref 156, .ref 157, .ref 158, .ref 159, .int 0, .ref 160, .int 0, .ref 161, .ref 162, .ref 163, .ref 164, .int 0, .ref 165, .ref 166])) → h1[121]? = some (.inl (0, .inl ([w0_, w1_, w2_, w3_, w4_, w5_]))) → h1[141]? = some (.inl (0, .inl ([y0_, y1_, y2_, y3_, y4_, y5_]))) → h1.length = N → xe_sz h1 = Z → Q (some (.int hr_)) h1) : ∀ (m : Nat) (i hr cn w0 w1 w2 w3 w4 w5 y0 y1 y2 y3 y4 y5 : Int32) (h : xe_H), 0 ≤ w0.toInt → 0 ≤ w1.toInt → 0 ≤ w2.toInt → 0 ≤ w3.toInt → 0 ≤ w4.toInt → 0 ≤ w5.toInt → w0.toInt ≤ 880 → w1.toInt ≤ 880 → w2.toInt ≤ 880 → w3.toInt ≤ 880 → w4.toInt ≤ 880 → w5.toInt ≤ 880 → 0 ≤ i.toInt → i.toInt ≤ n.toInt → n.toInt ≤ 600 → hr.toInt = i.toInt → n.toInt ≤ i.toInt + m → xg [0, 64, 115, 121, 141] h → h[115]? = some (.inr (12, [.int 0, .int hr, .ref 116, .ref 117, .ref 118, .ref 119, .ref 120, .ref 121, .ref 122, .ref 123, .ref 124, .ref 125, .ref 126, .ref 127, .ref 128, .ref 129, .int 4, .ref 130, .int 0, .ref 131, .ref 132, .ref 133, .ref 134, .int 0, .ref 135, .ref 136, .ref 137, .ref 138, .ref 139, .ref 140, .ref 141, .ref 142, .int cn, .int 0, .int 0, .ref 143, .ref 144, .ref 145, .ref 146, .ref 147, .ref 148, .int 0, .ref 149, .ref 150, .ref 151, .int 0, .ref 152, .ref 153, .ref 154, .ref 155, .ref 156, .ref 157, .ref 158, .ref 159, .int 0, .ref 160, .int 0, .ref 161, .ref 162, .ref 163, .ref 164, .int 0, .ref 165, .ref 166])) → h[121]? = some (.inl (0, .inl ([w0, w1, w2, w3, w4, w5]))) → h[141]? = some (.inl (0, .inl ([y0, y1, y2, y3, y4, y5]))) → h.length = N → xe_sz h = Z → xw J ov (d + 24) 35 (38, [(2, .int i), (0, .ref 115), (1, .int n)], [], h) Q := by
  intro m
  induction m with
  | zero =>
    intro i hr cn w0 w1 w2 w3 w4 w5 y0 y1 y2 y3 y4 y5 h h_0 h_1 h_2 h_3 h_4 h_5 h_6 h_7 h_8 h_9 h_10 h_11 h_12 h_13 h_14 h_15 h_m G0 A0_115 A0_121 A0_141 n0 z0
    refine xi_iload_n (pc' := 39) (x := i) kc_35_38 rfl rfl ?_
    refine xi_iload_n (pc' := 40) (x := n) kc_35_39 rfl rfl ?_
    refine xi_cmt (pc' := 53) kc_35_40 rfl (xc_ge_t (X := i.toInt) (Y := n.toInt) rfl rfl (by omega)) ?_
    refine xi_aload_n (pc' := 54) (x := 115) kc_35_53 rfl rfl ?_
    refine xi_getfield (pc' := 57) (v := .int hr) kc_35_54 rfl rfl rfl A0_115 rfl ?_
    refine xi_ireturn kc_35_57 mr_35 rfl ?_
    exact kk hr cn w0 w1 w2 w3 w4 w5 y0 y1 y2 y3 y4 y5 h (by first | omega | decide) G0 A0_115 A0_121 A0_141 n0 z0
  | succ m ih =>
    intro i hr cn w0 w1 w2 w3 w4 w5 y0 y1 y2 y3 y4 y5 h h_0 h_1 h_2 h_3 h_4 h_5 h_6 h_7 h_8 h_9 h_10 h_11 h_12 h_13 h_14 h_15 h_m G0 A0_115 A0_121 A0_141 n0 z0
    refine xi_iload_n (pc' := 39) (x := i) kc_35_38 rfl rfl ?_
    refine xi_iload_n (pc' := 40) (x := n) kc_35_39 rfl rfl ?_
    by_cases c1 : n.toInt ≤ i.toInt
    · refine xi_cmt (pc' := 53) kc_35_40 rfl (xc_ge_t (X := i.toInt) (Y := n.toInt) rfl rfl (by omega)) ?_
      refine xi_aload_n (pc' := 54) (x := 115) kc_35_53 rfl rfl ?_
      refine xi_getfield (pc' := 57) (v := .int hr) kc_35_54 rfl rfl rfl A0_115 rfl ?_
      refine xi_ireturn kc_35_57 mr_35 rfl ?_
      exact kk hr cn w0 w1 w2 w3 w4 w5 y0 y1 y2 y3 y4 y5 h (by first | omega | decide) G0 A0_115 A0_121 A0_141 n0 z0
    · refine xi_cmf (pc' := 43) kc_35_40 rfl (xc_ge_f (X := i.toInt) (Y := n.toInt) rfl rfl (by omega)) ?_
      refine xi_aload_n (pc' := 44) (x := 115) kc_35_43 rfl rfl ?_
      refine xi_virtual (mj := 36) (as := []) (st1 := []) (lv0 := [(0, .ref 115)]) kc_35_44 rfl rfl rfl rfl rfl A0_115 (Nat.le_of_ble_eq_true rfl) (hJ _ _ _ _ (by decide)) (xm_le ml_36 rfl) rfl ?_
      refine hb_pass hJ (by first | omega | decide) (by first | omega | decide) (by first | omega | decide) (by first | omega | decide) (by first | omega | decide) (by first | omega | decide) (by first | omega | decide) (by first | omega | decide) (by first | omega | decide) (by first | omega | decide) (by first | omega | decide) (by first | omega | decide) (by first | omega | decide) (by first | omega | decide) G0 A0_115 A0_121 A0_141 n0 z0 (fun hr_1 cn_1 w0_1 w1_1 w2_1 w3_1 w4_1 w5_1 y0_1 y1_1 y2_1 y3_1 y4_1 y5_1 hh1 q1_0 q1_1 q1_2 q1_3 q1_4 q1_5 q1_6 q1_7 q1_8 q1_9 q1_10 q1_11 q1_12 G1 A1_115 A1_121 A1_141 n1 z1 => ?_)
      show xw J ov (d + 24) 35 (47, [(2, .int i), (0, .ref 115), (1, .int n)], [], hh1) _
      obtain ⟨v2, ev2⟩ : ∃ q : Int32, i + 1 = q := ⟨_, rfl⟩
      have zv2 : v2.toInt = (i.toInt + 1) := by rw [← ev2]; exact (xz_add (X := i.toInt) (Y := 1) rfl (by decide) (by omega) (by omega)).trans (by omega)
      refine xi_iinc (pc' := 50) (x := i) (v := v2) (lv' := [(2, .int v2), (0, .ref 115), (1, .int n)]) kc_35_47 rfl rfl ev2 rfl (xm_lt ml_35 rfl) ?_
      refine xi_goto (pc' := 38) kc_35_50 rfl ?_
      exact ih v2 hr_1 cn_1 w0_1 w1_1 w2_1 w3_1 w4_1 w5_1 y0_1 y1_1 y2_1 y3_1 y4_1 y5_1 hh1 (by first | omega | decide) (by first | omega | decide) (by first | omega | decide) (by first | omega | decide) (by first | omega | decide) (by first | omega | decide) (by first | omega | decide) (by first | omega | decide) (by first | omega | decide) (by first | omega | decide) (by first | omega | decide) (by first | omega | decide) (by first | omega | decide) (by first | omega | decide) (by first | omega | decide) (by first | omega | decide) (by first | omega | decide) G1 A1_115 A1_121 A1_141 n1 z1
