def xs5 : Nat → Int
  | 0 => 40
  | 1 => 18
  | 2 => 10
  | _ => 0
def xtsP : List (Nat × Nat) := [(95, 1), (96, 1), (97, 1), (98, 1), (99, 1), (100, 1), (101, 1), (102, 1), (103, 1), (104, 1), (105, 1), (106, 1), (107, 1), (108, 1), (109, 1), (110, 1), (111, 1), (112, 1), (113, 1), (114, 1), (95, 2), (96, 2), (97, 2), (98, 2), (99, 2), (100, 2), (101, 2), (102, 2), (103, 2), (104, 2), (105, 2), (106, 2), (107, 2), (108, 2), (109, 2), (110, 2), (111, 2), (112, 2), (113, 2), (114, 2), (144, 0), (145, 0), (115, 34)]
def xsgP : List (Nat × Nat) := [(12, 0), (15, 0), (18, 0), (21, 0), (24, 0), (27, 0), (116, 0), (117, 0), (118, 0), (119, 0), (120, 0)]
def xts (h : xe_H) : Prop := ∃ (tq tu ka va : Nat → Int) (n : Int), xgf h xG_trial 1 tq ∧ xgf h xG_trial 2 tu ∧ xra h 144 20 ka ∧ xra h 145 20 va ∧ xfi h 115 34 n ∧ ∀ t : Nat, (t : Int) < n → (ka t = 0 ∧ tq t = 4 ∧ tu t = 1) ∨ (ka t ≠ 0 ∧ tq t = 2 ∧ tu t = va t)
theorem xts_fr {h h' : xe_H} (I : xts h) (F : ∀ l : Nat × Nat, List.elem l xtsP = true → xl h' l = xl h l) : xts h' := by
  obtain ⟨tq, tu, ka, va, n, a, b, c, d, e, f⟩ := I
  exact ⟨tq, tu, ka, va, n, xgf_fr a F (by decide +kernel), xgf_fr b F (by decide +kernel), xra_fr c (F _ rfl), xra_fr d (F _ rfl), xfi_fr e (F _ rfl), f⟩
theorem xSG_fr {h h' : xe_H} (I : ∃ st : xFn, xg6 h st ∧ xr5 h st) (F : ∀ l : Nat × Nat, List.elem l xsgP = true → xl h' l = xl h l) : ∃ st : xFn, xg6 h' st ∧ xr5 h' st := by
  obtain ⟨st, a, b⟩ := I
  exact ⟨st, xg6_fr a F (fun l hl => xk_el (by decide +kernel) hl), xr5_fr b F (fun l hl => xk_el (by decide +kernel) hl)⟩
theorem xWW_fr {h h' : xe_H} (I : ∃ w : Nat → Int, xra h 64 6 w ∧ xra h 121 6 w ∧ xwr 6 99999 w) (F1 : xl h' (64, 0) = xl h (64, 0)) (F2 : xl h' (121, 0) = xl h (121, 0)) : ∃ w : Nat → Int, xra h' 64 6 w ∧ xra h' 121 6 w ∧ xwr 6 99999 w := by
  obtain ⟨w, a, b, c⟩ := I
  exact ⟨w, xra_fr a F1, xra_fr b F2, c⟩
set_option maxHeartbeats 4000000 in
theorem ti_lp {J : xe_J} {ov : List (List Int32)} (hJ : ∀ d mj as h, mj ≠ xe_loff → J d mj as h = none) (hov1 : ov[1]? = some [10, 0, 0, 0, 0, 0]) (hov2 : ov[2]? = some [99, 30, 50, 50, 1, 99999]) {d : Nat} {Q : Option Value → xe_H → Prop} {h : xe_H} {a b c : Nat → Int} {n : Int} {x1 x2 x3 : Int32} (T : xt h) (Ga : xgf h xG_trial 0 a) (Gb : xgf h xG_trial 3 b) (Gc : xgf h xG_trial 4 c) (Fn : xfi h 0 8 n) (bn : 0 ≤ n ∧ n ≤ 20) (b1 : 0 ≤ x1.toInt ∧ x1.toInt ≤ 5) (k1 : (x2.toInt < x3.toInt ∧ xov a b c n.toNat x1.toInt x2.toInt x3.toInt) → Q (some (.int 1)) h) (k0 : ¬ (x2.toInt < x3.toInt ∧ xov a b c n.toNat x1.toInt x2.toInt x3.toInt) → Q (some (.int 0)) h) : ∀ (m : Nat) (x4 : Int32), (0 ≤ x4.toInt ∧ x4.toInt ≤ n) → ¬ (x2.toInt < x3.toInt ∧ xov a b c x4.toNatClampNeg x1.toInt x2.toInt x3.toInt) → 20 - x4.toInt < (m : Int) → xw J ov (d + 1) 164 (3, [(0, .ref 0), (1, .int x1), (2, .int x2), (3, .int x3), (4, .int x4)], [], h) Q := by
  intro m
  induction m with
  | zero => intro x4 b4 hN hm; exfalso; omega
  | succ m ih =>
    intro x4 b4 hN hm
    have K : xk [] h h := xk_re T
    have rx2 := xc_rng x2
    have rx3 := xc_rng x3
    have qx4 := xj_tn b4.1
    refine xi_iload (pc' := 5) (x := x4) kc_164_3 rfl rfl ?_
    refine xi_aload_n (pc' := 6) (x := 0) kc_164_5 rfl rfl ?_
    obtain ⟨u1, u2, bu1, bu2, A3⟩ := xq_0 K.1
    have hfu1 : u1.toInt = n := xfi_ld Fn A3 rfl
    refine xi_getfield (pc' := 9) (v := .int u1) kc_164_6 rfl rfl rfl A3 rfl ?_
    by_cases c4 : u1.toInt ≤ x4.toInt
    · refine xi_cmt (pc' := 68) kc_164_9 rfl (xc_ge_t (X := x4.toInt) (Y := u1.toInt) rfl rfl (by omega)) ?_
      refine xi_iconst (pc' := 69) (v := 0) kc_164_68 rfl rfl ?_
      refine xi_ireturn kc_164_69 mr_164 rfl ?_
      have en : x4.toNatClampNeg = n.toNat := by omega
      rw [en] at hN
      exact k0 hN
    · refine xi_cmf (pc' := 12) kc_164_9 rfl (xc_ge_f (X := x4.toInt) (Y := u1.toInt) rfl rfl (by omega)) ?_
      refine xi_iload (pc' := 14) (x := x4) kc_164_12 rfl rfl ?_
      refine xi_bipush (pc' := 16) (v := 20) kc_164_14 rfl rfl ?_
      refine xi_cmf (pc' := 19) kc_164_16 rfl (xc_ge_f (X := x4.toInt) (Y := 20) rfl (by decide) (by omega)) ?_
      refine xi_aload_n (pc' := 20) (x := 0) kc_164_19 rfl rfl ?_
      refine xi_getfield (pc' := 23) (v := .ref 93) kc_164_20 rfl rfl rfl A3 rfl ?_
      refine xi_iload (pc' := 25) (x := x4) kc_164_23 rfl rfl ?_
      have A5 := xk_ex K.1 xD_93
      obtain ⟨pt6, ept6, mpt6⟩ := xR_93 (i := x4) (by omega) (by omega)
      refine xj_aaload (pc' := 26) (b := pt6) kc_164_25 rfl A5 rfl (xi_in (n := 20) (by omega) (by omega)) ept6 ?_
      refine xi_astore (pc' := 28) (lv' := [(5, .ref pt6), (0, .ref 0), (1, .int x1), (2, .int x2), (3, .int x3), (4, .int x4)]) kc_164_26 rfl rfl (xm_lt ml_164 rfl) ?_
      refine xi_iload_n (pc' := 29) (x := x2) kc_164_28 rfl rfl ?_
      refine xi_iload_n (pc' := 30) (x := x3) kc_164_29 rfl rfl ?_
      by_cases c7 : x3.toInt ≤ x2.toInt
      · refine xi_cmt (pc' := 62) kc_164_30 rfl (xc_ge_t (X := x2.toInt) (Y := x3.toInt) rfl rfl (by omega)) ?_
        obtain ⟨v8, ev8⟩ : ∃ q : Int32, x4 + 1 = q := ⟨_, rfl⟩
        have zv8 : v8.toInt = (x4.toInt + 1) := by rw [← ev8]; exact (xz_add (X := x4.toInt) (Y := 1) rfl (by decide) (by omega) (by omega)).trans (by omega)
        refine xi_iinc (pc' := 65) (x := x4) (v := v8) (lv' := [(4, .int v8), (5, .ref pt6), (0, .ref 0), (1, .int x1), (2, .int x2), (3, .int x3)]) kc_164_62 rfl rfl ev8 rfl (xm_lt ml_164 rfl) ?_
        refine xi_goto (pc' := 3) kc_164_65 rfl ?_
        refine xw_lv (b := [(0, .ref 0), (1, .int x1), (2, .int x2), (3, .int x3), (4, .int v8)]) (lvS_cons (lvS_cons (lvS_cons (lvS_cons (lvS_cons (lvS_nil (show ([4, 5, 0, 1, 2, 3] : List Nat).Nodup by decide)) rfl) rfl) rfl) rfl) rfl) ?_
        have en : v8.toNatClampNeg = x4.toNatClampNeg + 1 := xcl2 b4.1 (by omega)
        exact ih v8 (by omega) (by rw [en]; exact fun z => xov_s (fun y => hN ⟨z.1, y⟩) (fun y => by have z1 := z.1; omega) z.2) (by omega)
      · refine xi_cmf (pc' := 33) kc_164_30 rfl (xc_ge_f (X := x2.toInt) (Y := x3.toInt) rfl rfl (by omega)) ?_
        refine xi_aload (pc' := 35) (x := pt6) kc_164_33 rfl rfl ?_
        obtain ⟨u9, u10, u11, u12, u13, u14, bu9, bu10, bu11, bu12, bu13, bu14, A15⟩ := xg_trial K.1 mpt6
        have hfu9 : u9.toInt = a (Int32.toNatClampNeg x4) := xgf_ld (Lo := [some 95, some 96, some 97, some 98, some 99, some 100, some 101, some 102, some 103, some 104, some 105, some 106, some 107, some 108, some 109, some 110, some 111, some 112, some 113, some 114]) Ga rfl ept6 (by omega) (by show _ < ((20 : Nat) : Int); omega) A15 rfl
        have hfu12 : u12.toInt = b (Int32.toNatClampNeg x4) := xgf_ld (Lo := [some 95, some 96, some 97, some 98, some 99, some 100, some 101, some 102, some 103, some 104, some 105, some 106, some 107, some 108, some 109, some 110, some 111, some 112, some 113, some 114]) Gb rfl ept6 (by omega) (by show _ < ((20 : Nat) : Int); omega) A15 rfl
        have hfu13 : u13.toInt = c (Int32.toNatClampNeg x4) := xgf_ld (Lo := [some 95, some 96, some 97, some 98, some 99, some 100, some 101, some 102, some 103, some 104, some 105, some 106, some 107, some 108, some 109, some 110, some 111, some 112, some 113, some 114]) Gc rfl ept6 (by omega) (by show _ < ((20 : Nat) : Int); omega) A15 rfl
        refine xi_getfield (pc' := 38) (v := .int u9) kc_164_35 rfl rfl rfl A15 rfl ?_
        refine xi_iload_n (pc' := 39) (x := x1) kc_164_38 rfl rfl ?_
        by_cases c16 : u9.toInt = x1.toInt
        · refine xi_cmf (pc' := 42) kc_164_39 rfl (xc_ne_f (X := u9.toInt) (Y := x1.toInt) rfl rfl (by omega)) ?_
          refine xi_iload_n (pc' := 43) (x := x2) kc_164_42 rfl rfl ?_
          refine xi_aload (pc' := 45) (x := pt6) kc_164_43 rfl rfl ?_
          refine xi_getfield (pc' := 48) (v := .int u13) kc_164_45 rfl rfl rfl A15 rfl ?_
          by_cases c17 : u13.toInt ≤ x2.toInt
          · refine xi_cmt (pc' := 62) kc_164_48 rfl (xc_ge_t (X := x2.toInt) (Y := u13.toInt) rfl rfl (by omega)) ?_
            obtain ⟨v18, ev18⟩ : ∃ q : Int32, x4 + 1 = q := ⟨_, rfl⟩
            have zv18 : v18.toInt = (x4.toInt + 1) := by rw [← ev18]; exact (xz_add (X := x4.toInt) (Y := 1) rfl (by decide) (by omega) (by omega)).trans (by omega)
            refine xi_iinc (pc' := 65) (x := x4) (v := v18) (lv' := [(4, .int v18), (5, .ref pt6), (0, .ref 0), (1, .int x1), (2, .int x2), (3, .int x3)]) kc_164_62 rfl rfl ev18 rfl (xm_lt ml_164 rfl) ?_
            refine xi_goto (pc' := 3) kc_164_65 rfl ?_
            refine xw_lv (b := [(0, .ref 0), (1, .int x1), (2, .int x2), (3, .int x3), (4, .int v18)]) (lvS_cons (lvS_cons (lvS_cons (lvS_cons (lvS_cons (lvS_nil (show ([4, 5, 0, 1, 2, 3] : List Nat).Nodup by decide)) rfl) rfl) rfl) rfl) rfl) ?_
            have en : v18.toNatClampNeg = x4.toNatClampNeg + 1 := xcl2 b4.1 (by omega)
            exact ih v18 (by omega) (by rw [en]; exact fun z => xov_s (fun y => hN ⟨z.1, y⟩) (fun y => by have z1 := z.1; omega) z.2) (by omega)
          · refine xi_cmf (pc' := 51) kc_164_48 rfl (xc_ge_f (X := x2.toInt) (Y := u13.toInt) rfl rfl (by omega)) ?_
            refine xi_aload (pc' := 53) (x := pt6) kc_164_51 rfl rfl ?_
            refine xi_getfield (pc' := 56) (v := .int u12) kc_164_53 rfl rfl rfl A15 rfl ?_
            refine xi_iload_n (pc' := 57) (x := x3) kc_164_56 rfl rfl ?_
            by_cases c19 : x3.toInt ≤ u12.toInt
            · refine xi_cmt (pc' := 62) kc_164_57 rfl (xc_ge_t (X := u12.toInt) (Y := x3.toInt) rfl rfl (by omega)) ?_
              obtain ⟨v20, ev20⟩ : ∃ q : Int32, x4 + 1 = q := ⟨_, rfl⟩
              have zv20 : v20.toInt = (x4.toInt + 1) := by rw [← ev20]; exact (xz_add (X := x4.toInt) (Y := 1) rfl (by decide) (by omega) (by omega)).trans (by omega)
              refine xi_iinc (pc' := 65) (x := x4) (v := v20) (lv' := [(4, .int v20), (5, .ref pt6), (0, .ref 0), (1, .int x1), (2, .int x2), (3, .int x3)]) kc_164_62 rfl rfl ev20 rfl (xm_lt ml_164 rfl) ?_
              refine xi_goto (pc' := 3) kc_164_65 rfl ?_
              refine xw_lv (b := [(0, .ref 0), (1, .int x1), (2, .int x2), (3, .int x3), (4, .int v20)]) (lvS_cons (lvS_cons (lvS_cons (lvS_cons (lvS_cons (lvS_nil (show ([4, 5, 0, 1, 2, 3] : List Nat).Nodup by decide)) rfl) rfl) rfl) rfl) rfl) ?_
              have en : v20.toNatClampNeg = x4.toNatClampNeg + 1 := xcl2 b4.1 (by omega)
              exact ih v20 (by omega) (by rw [en]; exact fun z => xov_s (fun y => hN ⟨z.1, y⟩) (fun y => by have z1 := z.1; omega) z.2) (by omega)
            · refine xi_cmf (pc' := 60) kc_164_57 rfl (xc_ge_f (X := u12.toInt) (Y := x3.toInt) rfl rfl (by omega)) ?_
              refine xi_iconst (pc' := 61) (v := 1) kc_164_60 rfl rfl ?_
              refine xi_ireturn kc_164_61 mr_164 rfl ?_
              exact k1 ⟨by omega, xov_y (m := x4.toNatClampNeg) (by omega) ⟨by omega, by omega, by omega⟩⟩
        · refine xi_cmt (pc' := 62) kc_164_39 rfl (xc_ne_t (X := u9.toInt) (Y := x1.toInt) rfl rfl (by omega)) ?_
          obtain ⟨v21, ev21⟩ : ∃ q : Int32, x4 + 1 = q := ⟨_, rfl⟩
          have zv21 : v21.toInt = (x4.toInt + 1) := by rw [← ev21]; exact (xz_add (X := x4.toInt) (Y := 1) rfl (by decide) (by omega) (by omega)).trans (by omega)
          refine xi_iinc (pc' := 65) (x := x4) (v := v21) (lv' := [(4, .int v21), (5, .ref pt6), (0, .ref 0), (1, .int x1), (2, .int x2), (3, .int x3)]) kc_164_62 rfl rfl ev21 rfl (xm_lt ml_164 rfl) ?_
          refine xi_goto (pc' := 3) kc_164_65 rfl ?_
          refine xw_lv (b := [(0, .ref 0), (1, .int x1), (2, .int x2), (3, .int x3), (4, .int v21)]) (lvS_cons (lvS_cons (lvS_cons (lvS_cons (lvS_cons (lvS_nil (show ([4, 5, 0, 1, 2, 3] : List Nat).Nodup by decide)) rfl) rfl) rfl) rfl) rfl) ?_
          have en : v21.toNatClampNeg = x4.toNatClampNeg + 1 := xcl2 b4.1 (by omega)
          exact ih v21 (by omega) (by rw [en]; exact fun z => xov_s (fun y => hN ⟨z.1, y⟩) (fun y => by have z1 := z.1; omega) z.2) (by omega)
theorem xw_ti {J : xe_J} {ov : List (List Int32)} (hJ : ∀ d mj as h, mj ≠ xe_loff → J d mj as h = none) (hov1 : ov[1]? = some [10, 0, 0, 0, 0, 0]) (hov2 : ov[2]? = some [99, 30, 50, 50, 1, 99999]) {d : Nat} {Q : Option Value → xe_H → Prop} {h : xe_H} {a b c : Nat → Int} {n : Int} {x1 x2 x3 : Int32} (T : xt h) (Ga : xgf h xG_trial 0 a) (Gb : xgf h xG_trial 3 b) (Gc : xgf h xG_trial 4 c) (Fn : xfi h 0 8 n) (bn : 0 ≤ n ∧ n ≤ 20) (b1 : 0 ≤ x1.toInt ∧ x1.toInt ≤ 5) (k1 : (x2.toInt < x3.toInt ∧ xov a b c n.toNat x1.toInt x2.toInt x3.toInt) → Q (some (.int 1)) h) (k0 : ¬ (x2.toInt < x3.toInt ∧ xov a b c n.toNat x1.toInt x2.toInt x3.toInt) → Q (some (.int 0)) h) : xw J ov (d + 1) 164 (0, [(0, .ref 0), (1, .int x1), (2, .int x2), (3, .int x3)], [], h) Q := by
  have zc0 : (0 : Int32).toInt = 0 := by decide
  refine xi_iconst (pc' := 1) (v := 0) kc_164_0 rfl rfl ?_
  refine xi_istore (pc' := 3) (lv' := [(4, .int 0), (0, .ref 0), (1, .int x1), (2, .int x2), (3, .int x3)]) kc_164_1 rfl rfl (xm_lt ml_164 rfl) ?_
  refine xw_lv (b := [(0, .ref 0), (1, .int x1), (2, .int x2), (3, .int x3), (4, .int 0)]) (lvS_cons (lvS_cons (lvS_cons (lvS_cons (lvS_cons (lvS_nil (show ([4, 0, 1, 2, 3] : List Nat).Nodup by decide)) rfl) rfl) rfl) rfl) rfl) ?_
  exact ti_lp hJ hov1 hov2 T Ga Gb Gc Fn bn b1 k1 k0 21 0 (by omega) (fun z => xov_0 z.2) (by omega)
set_option maxHeartbeats 4000000 in
theorem tr_lp {J : xe_J} {ov : List (List Int32)} (hJ : ∀ d mj as h, mj ≠ xe_loff → J d mj as h = none) (hov1 : ov[1]? = some [10, 0, 0, 0, 0, 0]) (hov2 : ov[2]? = some [99, 30, 50, 50, 1, 99999]) {d : Nat} {Q : Option Value → xe_H → Prop} {h : xe_H} {a b c : Nat → Int} {n : Int} {x1 x2 x3 x4 x5 : Int32} (T : xt h) (Ra : xra h 143 20 a) (Rb : xra h 146 20 b) (Rc : xra h 147 20 c) (Fn : xfi h 115 34 n) (bn : 0 ≤ n ∧ n ≤ 20) (b1 : 0 ≤ x1.toInt ∧ x1.toInt ≤ 5) (b2 : 0 ≤ x2.toInt ∧ x2.toInt ≤ 1) (k1 : (xov a b c n.toNat x1.toInt x4.toInt x5.toInt) → ∀ h' : xe_H, xk xP_0 h h' → Q (some (.int (-3))) h') (k0 : ¬ (xov a b c n.toNat x1.toInt x4.toInt x5.toInt) → ∀ lv : List (Nat × Value), lvS lv [(0, .ref 115), (1, .int x1), (2, .int x2), (3, .int x3), (4, .int x4), (5, .int x5)] → xw J ov (d + 2) 61 (94, lv, [], h) Q) : ∀ (m : Nat) (x6 : Int32), (0 ≤ x6.toInt ∧ x6.toInt ≤ n) → ¬ (xov a b c x6.toNatClampNeg x1.toInt x4.toInt x5.toInt) → 20 - x6.toInt < (m : Int) → xw J ov (d + 2) 61 (37, [(0, .ref 115), (1, .int x1), (2, .int x2), (3, .int x3), (4, .int x4), (5, .int x5), (6, .int x6)], [], h) Q := by
  intro m
  induction m with
  | zero => intro x6 b6 hN hm; exfalso; omega
  | succ m ih =>
    intro x6 b6 hN hm
    have K : xk xP_0 h h := xk_re T
    have rx3 := xc_rng x3
    have rx4 := xc_rng x4
    have rx5 := xc_rng x5
    have qx6 := xj_tn b6.1
    refine xi_iload (pc' := 39) (x := x6) kc_61_37 rfl rfl ?_
    refine xi_aload_n (pc' := 40) (x := 115) kc_61_39 rfl rfl ?_
    obtain ⟨u1, u2, u3, u4, u5, u6, u7, u8, u9, u10, u11, u12, u13, bu1, bu2, bu3, bu4, bu5, bu6, bu7, bu8, bu9, bu10, bu11, bu12, bu13, A14⟩ := xq_115 K.1
    have hfu8 : u8.toInt = n := xfi_ld Fn A14 rfl
    refine xi_getfield (pc' := 43) (v := .int u8) kc_61_40 rfl rfl rfl A14 rfl ?_
    by_cases c15 : u8.toInt ≤ x6.toInt
    · refine xi_cmt (pc' := 94) kc_61_43 rfl (xc_ge_t (X := x6.toInt) (Y := u8.toInt) rfl rfl (by omega)) ?_
      have en : x6.toNatClampNeg = n.toNat := by omega
      rw [en] at hN
      exact k0 hN _ (lvS_cons (lvS_cons (lvS_cons (lvS_cons (lvS_cons (lvS_cons (lvS_nil (show ([0, 1, 2, 3, 4, 5, 6] : List Nat).Nodup by decide)) rfl) rfl) rfl) rfl) rfl) rfl)
    · refine xi_cmf (pc' := 46) kc_61_43 rfl (xc_ge_f (X := x6.toInt) (Y := u8.toInt) rfl rfl (by omega)) ?_
      refine xi_aload_n (pc' := 47) (x := 115) kc_61_46 rfl rfl ?_
      refine xi_getfield (pc' := 50) (v := .ref 143) kc_61_47 rfl rfl rfl A14 rfl ?_
      refine xi_iload (pc' := 52) (x := x6) kc_61_50 rfl rfl ?_
      obtain ⟨y16, A16, hy16, ry16⟩ := xk_arr K.1 xD_143
      have R17 : xrp y16 20 a := xra_ld Ra A16
      obtain ⟨v18, ev18, bv18, dv18⟩ := xj_get hy16 ry16 (i := x6) (by omega) (by omega)
      refine xi_iaload (pc' := 53) (v := v18) kc_61_52 rfl A16 (by decide) rfl (xi_in (by omega) (by rw [hy16]; omega)) ev18 ?_
      have hlv18 : v18.toInt = a (Int32.toNatClampNeg x6) := xrp_ld R17 (by omega) (by omega) ev18
      refine xi_iload_n (pc' := 54) (x := x1) kc_61_53 rfl rfl ?_
      by_cases c19 : v18.toInt = x1.toInt
      · refine xi_cmf (pc' := 57) kc_61_54 rfl (xc_ne_f (X := v18.toInt) (Y := x1.toInt) rfl rfl (by omega)) ?_
        refine xi_iload (pc' := 59) (x := x4) kc_61_57 rfl rfl ?_
        refine xi_aload_n (pc' := 60) (x := 115) kc_61_59 rfl rfl ?_
        refine xi_getfield (pc' := 63) (v := .ref 147) kc_61_60 rfl rfl rfl A14 rfl ?_
        refine xi_iload (pc' := 65) (x := x6) kc_61_63 rfl rfl ?_
        obtain ⟨y20, A20, hy20, ry20⟩ := xk_arr K.1 xD_147
        have R21 : xrp y20 20 c := xra_ld Rc A20
        obtain ⟨v22, ev22, bv22, dv22⟩ := xj_get hy20 ry20 (i := x6) (by omega) (by omega)
        refine xi_iaload (pc' := 66) (v := v22) kc_61_65 rfl A20 (by decide) rfl (xi_in (by omega) (by rw [hy20]; omega)) ev22 ?_
        have hlv22 : v22.toInt = c (Int32.toNatClampNeg x6) := xrp_ld R21 (by omega) (by omega) ev22
        by_cases c23 : v22.toInt ≤ x4.toInt
        · refine xi_cmt (pc' := 88) kc_61_66 rfl (xc_ge_t (X := x4.toInt) (Y := v22.toInt) rfl rfl (by omega)) ?_
          obtain ⟨v24, ev24⟩ : ∃ q : Int32, x6 + 1 = q := ⟨_, rfl⟩
          have zv24 : v24.toInt = (x6.toInt + 1) := by rw [← ev24]; exact (xz_add (X := x6.toInt) (Y := 1) rfl (by decide) (by omega) (by omega)).trans (by omega)
          refine xi_iinc (pc' := 91) (x := x6) (v := v24) (lv' := [(6, .int v24), (0, .ref 115), (1, .int x1), (2, .int x2), (3, .int x3), (4, .int x4), (5, .int x5)]) kc_61_88 rfl rfl ev24 rfl (xm_lt ml_61 rfl) ?_
          refine xi_goto (pc' := 37) kc_61_91 rfl ?_
          refine xw_lv (b := [(0, .ref 115), (1, .int x1), (2, .int x2), (3, .int x3), (4, .int x4), (5, .int x5), (6, .int v24)]) (lvS_cons (lvS_cons (lvS_cons (lvS_cons (lvS_cons (lvS_cons (lvS_cons (lvS_nil (show ([6, 0, 1, 2, 3, 4, 5] : List Nat).Nodup by decide)) rfl) rfl) rfl) rfl) rfl) rfl) rfl) ?_
          have en : v24.toNatClampNeg = x6.toNatClampNeg + 1 := xcl2 b6.1 (by omega)
          exact ih v24 (by omega) (by rw [en]; exact xov_s hN (fun y => by omega)) (by omega)
        · refine xi_cmf (pc' := 69) kc_61_66 rfl (xc_ge_f (X := x4.toInt) (Y := v22.toInt) rfl rfl (by omega)) ?_
          refine xi_iload (pc' := 71) (x := x5) kc_61_69 rfl rfl ?_
          refine xi_aload_n (pc' := 72) (x := 115) kc_61_71 rfl rfl ?_
          refine xi_getfield (pc' := 75) (v := .ref 146) kc_61_72 rfl rfl rfl A14 rfl ?_
          refine xi_iload (pc' := 77) (x := x6) kc_61_75 rfl rfl ?_
          obtain ⟨y25, A25, hy25, ry25⟩ := xk_arr K.1 xD_146
          have R26 : xrp y25 20 b := xra_ld Rb A25
          obtain ⟨v27, ev27, bv27, dv27⟩ := xj_get hy25 ry25 (i := x6) (by omega) (by omega)
          refine xi_iaload (pc' := 78) (v := v27) kc_61_77 rfl A25 (by decide) rfl (xi_in (by omega) (by rw [hy25]; omega)) ev27 ?_
          have hlv27 : v27.toInt = b (Int32.toNatClampNeg x6) := xrp_ld R26 (by omega) (by omega) ev27
          by_cases c28 : x5.toInt ≤ v27.toInt
          · refine xi_cmt (pc' := 88) kc_61_78 rfl (xc_le_t (X := x5.toInt) (Y := v27.toInt) rfl rfl (by omega)) ?_
            obtain ⟨v29, ev29⟩ : ∃ q : Int32, x6 + 1 = q := ⟨_, rfl⟩
            have zv29 : v29.toInt = (x6.toInt + 1) := by rw [← ev29]; exact (xz_add (X := x6.toInt) (Y := 1) rfl (by decide) (by omega) (by omega)).trans (by omega)
            refine xi_iinc (pc' := 91) (x := x6) (v := v29) (lv' := [(6, .int v29), (0, .ref 115), (1, .int x1), (2, .int x2), (3, .int x3), (4, .int x4), (5, .int x5)]) kc_61_88 rfl rfl ev29 rfl (xm_lt ml_61 rfl) ?_
            refine xi_goto (pc' := 37) kc_61_91 rfl ?_
            refine xw_lv (b := [(0, .ref 115), (1, .int x1), (2, .int x2), (3, .int x3), (4, .int x4), (5, .int x5), (6, .int v29)]) (lvS_cons (lvS_cons (lvS_cons (lvS_cons (lvS_cons (lvS_cons (lvS_cons (lvS_nil (show ([6, 0, 1, 2, 3, 4, 5] : List Nat).Nodup by decide)) rfl) rfl) rfl) rfl) rfl) rfl) rfl) ?_
            have en : v29.toNatClampNeg = x6.toNatClampNeg + 1 := xcl2 b6.1 (by omega)
            exact ih v29 (by omega) (by rw [en]; exact xov_s hN (fun y => by omega)) (by omega)
          · refine xi_cmf (pc' := 81) kc_61_78 rfl (xc_le_f (X := x5.toInt) (Y := v27.toInt) rfl rfl (by omega)) ?_
            refine xi_aload_n (pc' := 82) (x := 115) kc_61_81 rfl rfl ?_
            refine xi_bipush (pc' := 84) (v := (-3)) kc_61_82 rfl rfl ?_
            refine xi_virtual (mj := 12) (as := [.int (-3)]) (st1 := []) (lv0 := [(0, .ref 115), (1, .int (-3))]) kc_61_84 rfl rfl rfl rfl rfl A14 (Nat.le_of_ble_eq_true rfl) (hJ _ _ _ _ (by decide)) (xm_le ml_12 rfl) rfl ?_
            refine xi_aload_n (pc' := 1) (x := 115) kc_12_0 rfl rfl ?_
            refine xi_getfield (pc' := 4) (v := .ref 140) kc_12_1 rfl rfl rfl A14 rfl ?_
            refine xi_iload_n (pc' := 5) (x := (-3)) kc_12_4 rfl rfl ?_
            refine xi_ineg (pc' := 6) (v := 3) kc_12_5 rfl rfl ?_
            refine xi_dup2 (pc' := 7) kc_12_6 rfl ⟨rfl, rfl⟩ ?_
            obtain ⟨y30, A30, hy30, ry30⟩ := xk_arr K.1 xD_140
            obtain ⟨v31, ev31, bv31, dv31⟩ := xj_get hy30 ry30 (i := 3) (by decide) (by decide)
            refine xi_iaload (pc' := 8) (v := v31) kc_12_7 rfl A30 (by decide) rfl (xi_in (by decide) (by rw [hy30]; decide)) ev31 ?_
            refine xi_iconst (pc' := 9) (v := 1) kc_12_8 rfl rfl ?_
            obtain ⟨v32, ev32⟩ : ∃ q : Int32, (v31 : Int32) + 1 = q := ⟨_, rfl⟩
            have rv32 := xc_rng v32
            refine xi_iadd (pc' := 10) (v := v32) kc_12_9 rfl ev32 ?_
            obtain ⟨y33, s33, hy33, ry33⟩ := xj_set (v := v32) hy30 ry30 3 (by first | omega | decide) (by first | omega | decide)
            refine xi_iastore (pc' := 11) (x' := y33) kc_12_10 rfl A30 rfl (xi_in (by decide) (by rw [hy30]; decide)) s33 (fun hh33 eh33 => ?_)
            have K34 := xk_pa K (xk_wa (by decide +kernel)) xD_140 hy33 ry33 eh33
            refine xi_iload_n (pc' := 12) (x := (-3)) kc_12_11 rfl rfl ?_
            refine xi_ireturn kc_12_12 mr_12 rfl ?_
            show xw J ov (d + 2) 61 (87, [(0, .ref 115), (1, .int x1), (2, .int x2), (3, .int x3), (4, .int x4), (5, .int x5), (6, .int x6)], [.int (-3)], hh33) _
            refine xi_ireturn kc_61_87 mr_61 rfl ?_
            exact k1 (xov_y (m := x6.toNatClampNeg) (by omega) ⟨by omega, by omega, by omega⟩) hh33 K34
      · refine xi_cmt (pc' := 88) kc_61_54 rfl (xc_ne_t (X := v18.toInt) (Y := x1.toInt) rfl rfl (by omega)) ?_
        obtain ⟨v35, ev35⟩ : ∃ q : Int32, x6 + 1 = q := ⟨_, rfl⟩
        have zv35 : v35.toInt = (x6.toInt + 1) := by rw [← ev35]; exact (xz_add (X := x6.toInt) (Y := 1) rfl (by decide) (by omega) (by omega)).trans (by omega)
        refine xi_iinc (pc' := 91) (x := x6) (v := v35) (lv' := [(6, .int v35), (0, .ref 115), (1, .int x1), (2, .int x2), (3, .int x3), (4, .int x4), (5, .int x5)]) kc_61_88 rfl rfl ev35 rfl (xm_lt ml_61 rfl) ?_
        refine xi_goto (pc' := 37) kc_61_91 rfl ?_
        refine xw_lv (b := [(0, .ref 115), (1, .int x1), (2, .int x2), (3, .int x3), (4, .int x4), (5, .int x5), (6, .int v35)]) (lvS_cons (lvS_cons (lvS_cons (lvS_cons (lvS_cons (lvS_cons (lvS_cons (lvS_nil (show ([6, 0, 1, 2, 3, 4, 5] : List Nat).Nodup by decide)) rfl) rfl) rfl) rfl) rfl) rfl) rfl) ?_
        have en : v35.toNatClampNeg = x6.toNatClampNeg + 1 := xcl2 b6.1 (by omega)
        exact ih v35 (by omega) (by rw [en]; exact xov_s hN (fun y => by omega)) (by omega)
