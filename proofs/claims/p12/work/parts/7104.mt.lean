set_option maxHeartbeats 4000000 in
theorem lp_166_0 {J : xe_J} {ov : List (List Int32)} (hJ : ∀ d mj as h, mj ≠ xe_loff → J d mj as h = none) (hov1 : ov[1]? = some [10, 0, 0, 0, 0, 0]) (hov2 : ov[2]? = some [99, 30, 50, 50, 1, 99999]) {d : Nat} {Q : Option Value → xe_H → Prop} {hb : xe_H} (kk : (∀ (r : Int32) (h' : xe_H), xk [(0, 9), (115, 1), (83, 0), (29, 0), (31, 0), (33, 0), (35, 0), (37, 0), (39, 0), (41, 0), (43, 0), (45, 0), (47, 0), (49, 0), (51, 0), (125, 0), (66, 8), (115, 18), (71, 0), (132, 0)] hb h' → Q (some (.int r)) h')) : ∀ m : Nat, (∀ (x1 : Int32) (x4 : Int32) (x5 : Int32) (w6 : Int64) (w8 : Int64) (x10 : Int32) (h : xe_H), (0 ≤ x4.toInt ∧ x4.toInt ≤ 2147483647) → ((-2147483648) ≤ x5.toInt ∧ x5.toInt ≤ 600) → (0 ≤ x10.toInt ∧ x10.toInt ≤ 12) → xk [(0, 9), (115, 1), (83, 0), (29, 0), (31, 0), (33, 0), (35, 0), (37, 0), (39, 0), (41, 0), (43, 0), (45, 0), (47, 0), (49, 0), (51, 0), (125, 0), (66, 8), (115, 18), (71, 0), (132, 0)] hb h → (-2147483649) * x10.toInt + 27917287436 < (m : Int) → xw J ov (d + 1) 166 (36, [(0, .ref 1), (1, .int x1), (4, .int x4), (5, .int x5), (6, .long w6), (8, .long w8), (10, .int x10)], [], h) Q) ∧ (∀ (x1 : Int32) (x4 : Int32) (x5 : Int32) (w6 : Int64) (w8 : Int64) (x10 : Int32) (x11 : Int32) (h : xe_H), (0 ≤ x4.toInt ∧ x4.toInt ≤ 2147483647) → ((-2147483648) ≤ x5.toInt ∧ x5.toInt ≤ 600) → (0 ≤ x10.toInt ∧ x10.toInt ≤ 11) → (0 ≤ x11.toInt ∧ x11.toInt ≤ 2147483647) → xk [(0, 9), (115, 1), (83, 0), (29, 0), (31, 0), (33, 0), (35, 0), (37, 0), (39, 0), (41, 0), (43, 0), (45, 0), (47, 0), (49, 0), (51, 0), (125, 0), (66, 8), (115, 18), (71, 0), (132, 0)] hb h → (-2147483649) * x10.toInt + (-1) * x11.toInt + 27917287435 < (m : Int) → xw J ov (d + 1) 166 (61, [(0, .ref 1), (1, .int x1), (4, .int x4), (5, .int x5), (6, .long w6), (8, .long w8), (10, .int x10), (11, .int x11)], [], h) Q) := by
  intro m
  induction m with
  | zero =>
    refine ⟨?_, ?_⟩
    · intro x1 x4 x5 w6 w8 x10 h b4 b5 b10 K hm; have rx1 := xc_rng x1; exfalso; omega
    · intro x1 x4 x5 w6 w8 x10 x11 h b4 b5 b10 b11 K hm; have rx1 := xc_rng x1; exfalso; omega
  | succ m ih =>
    obtain ⟨i0, i1⟩ := ih
    refine ⟨?_, ?_⟩
    · intro x1 x4 x5 w6 w8 x10 h b4 b5 b10 K hm
      have rx1 := xc_rng x1
      refine xi_iload (pc' := 38) (x := x10) kc_166_36 rfl rfl ?_
      refine xi_bipush (pc' := 40) (v := 12) kc_166_38 rfl rfl ?_
      by_cases c1 : 12 ≤ x10.toInt
      · refine xi_cmt (pc' := 105) kc_166_40 rfl (xc_ge_t (X := x10.toInt) (Y := 12) rfl (by decide) (by omega)) ?_
        refine xi_lload (pc' := 107) (x := w8) kc_166_105 rfl rfl ?_
        refine xi_lconst (pc' := 108) (v := 0) kc_166_107 rfl rfl ?_
        refine xcps2 (α := Int32) (lg_cmp w8 0) (fun v2 ev2 => ?_)
        have rv2 := xc_rng v2
        refine xi_lcmp (pc' := 109) (v := v2) kc_166_108 rfl ev2 ?_
        by_cases c3 : v2.toInt = 0
        · refine xi_iff (pc' := 112) kc_166_109 rfl (xc_ne_f (X := v2.toInt) (Y := 0) rfl (by decide) (by omega)) ?_
          refine xi_iconst (pc' := 113) (v := 0) kc_166_112 rfl rfl ?_
          refine xi_goto (pc' := 122) kc_166_113 rfl ?_
          refine xi_ireturn kc_166_122 mr_166 rfl ?_
          have zc0 : (0 : Int32).toInt = 0 := by decide
          exact kk 0 h K
        · have zw8c3 : w8 ≠ 0 := xj_lc ev2 (by omega)
          refine xi_ift (pc' := 116) kc_166_109 rfl (xc_ne_t (X := v2.toInt) (Y := 0) rfl (by decide) (by omega)) ?_
          refine xi_lload (pc' := 118) (x := w6) kc_166_116 rfl rfl ?_
          refine xi_lload (pc' := 120) (x := w8) kc_166_118 rfl rfl ?_
          refine xcps2 (α := Int64) ((w6 : Int64) / w8) (fun v4 ev4 => ?_)
          refine xi_ldiv (pc' := 121) (v := v4) kc_166_120 rfl ev4 zw8c3 ?_
          obtain ⟨v5, ev5⟩ : ∃ q, (v4 : Int64).toInt32 = q := ⟨_, rfl⟩
          have rv5 := xc_rng v5
          refine xi_l2i (pc' := 122) (v := v5) kc_166_121 rfl ev5 ?_
          refine xi_ireturn kc_166_122 mr_166 rfl ?_
          exact kk v5 h K
      · refine xi_cmf (pc' := 43) kc_166_40 rfl (xc_ge_f (X := x10.toInt) (Y := 12) rfl (by decide) (by omega)) ?_
        refine xi_aload_n (pc' := 44) (x := 1) kc_166_43 rfl rfl ?_
        refine xp_1 K.1 (fun u6 u7 bu6 bu7 A8 => ?_)
        refine xi_getfield (pc' := 47) (v := .ref 3) kc_166_44 rfl rfl rfl A8 rfl ?_
        refine xi_iload (pc' := 49) (x := x10) kc_166_47 rfl rfl ?_
        have A9 := xk_ex K.1 xD_3
        obtain ⟨pt10, ept10, mpt10⟩ := xR_3 (i := x10) (by omega) (by omega)
        refine xj_aaload (pc' := 50) (b := pt10) kc_166_49 rfl A9 rfl (xi_in (n := 12) (by omega) (by omega)) ept10 ?_
        obtain ⟨u11, u12, u13, u14, pt15, bu11, bu12, bu13, bu14, mpt15, A16⟩ := xg_wall K.1 mpt10
        refine xi_getfield (pc' := 53) (v := .int u11) kc_166_50 rfl rfl rfl A16 rfl ?_
        refine xi_iload_n (pc' := 54) (x := x1) kc_166_53 rfl rfl ?_
        by_cases c17 : u11.toInt = x1.toInt
        · refine xi_cmf (pc' := 57) kc_166_54 rfl (xc_ne_f (X := u11.toInt) (Y := x1.toInt) rfl rfl (by omega)) ?_
          refine xi_iload (pc' := 59) (x := x4) kc_166_57 rfl rfl ?_
          refine xi_istore (pc' := 61) (lv' := [(11, .int x4), (0, .ref 1), (1, .int x1), (4, .int x4), (5, .int x5), (6, .long w6), (8, .long w8), (10, .int x10)]) kc_166_59 rfl rfl (xm_lt ml_166 rfl) ?_
          refine xw_lv (b := [(0, .ref 1), (1, .int x1), (4, .int x4), (5, .int x5), (6, .long w6), (8, .long w8), (10, .int x10), (11, .int x4)]) (lvS_cons (lvS_cons (lvS_cons (lvS_cons (lvS_cons (lvS_cons (lvS_cons (lvS_cons (lvS_nil (show ([11, 0, 1, 4, 5, 6, 8, 10] : List Nat).Nodup by decide)) rfl) rfl) rfl) rfl) rfl) rfl) rfl) rfl) ?_
          exact i1 x1 x4 x5 w6 w8 x10 x4 h (by omega) (by omega) (by omega) (by omega) K (by omega)
        · refine xi_cmt (pc' := 99) kc_166_54 rfl (xc_ne_t (X := u11.toInt) (Y := x1.toInt) rfl rfl (by omega)) ?_
          refine xcps2 (α := Int32) (x10 + 1) (fun v18 ev18 => ?_)
          have zv18 : v18.toInt = (x10.toInt + 1) := by rw [← ev18]; exact (xz_add (X := x10.toInt) (Y := 1) rfl (by decide) (by omega) (by omega)).trans (by omega)
          refine xi_iinc (pc' := 102) (x := x10) (v := v18) (lv' := [(10, .int v18), (0, .ref 1), (1, .int x1), (4, .int x4), (5, .int x5), (6, .long w6), (8, .long w8)]) kc_166_99 rfl rfl ev18 rfl (xm_lt ml_166 rfl) ?_
          refine xi_goto (pc' := 36) kc_166_102 rfl ?_
          refine xw_lv (b := [(0, .ref 1), (1, .int x1), (4, .int x4), (5, .int x5), (6, .long w6), (8, .long w8), (10, .int v18)]) (lvS_cons (lvS_cons (lvS_cons (lvS_cons (lvS_cons (lvS_cons (lvS_cons (lvS_nil (show ([10, 0, 1, 4, 5, 6, 8] : List Nat).Nodup by decide)) rfl) rfl) rfl) rfl) rfl) rfl) rfl) ?_
          exact i0 x1 x4 x5 w6 w8 v18 h (by omega) (by omega) (by omega) K (by omega)
    · intro x1 x4 x5 w6 w8 x10 x11 h b4 b5 b10 b11 K hm
      have rx1 := xc_rng x1
      refine xi_iload (pc' := 63) (x := x11) kc_166_61 rfl rfl ?_
      refine xi_iload (pc' := 65) (x := x5) kc_166_63 rfl rfl ?_
      by_cases c1 : x5.toInt ≤ x11.toInt
      · refine xi_cmt (pc' := 99) kc_166_65 rfl (xc_ge_t (X := x11.toInt) (Y := x5.toInt) rfl rfl (by omega)) ?_
        refine xcps2 (α := Int32) (x10 + 1) (fun v2 ev2 => ?_)
        have zv2 : v2.toInt = (x10.toInt + 1) := by rw [← ev2]; exact (xz_add (X := x10.toInt) (Y := 1) rfl (by decide) (by omega) (by omega)).trans (by omega)
        refine xi_iinc (pc' := 102) (x := x10) (v := v2) (lv' := [(10, .int v2), (0, .ref 1), (1, .int x1), (4, .int x4), (5, .int x5), (6, .long w6), (8, .long w8), (11, .int x11)]) kc_166_99 rfl rfl ev2 rfl (xm_lt ml_166 rfl) ?_
        refine xi_goto (pc' := 36) kc_166_102 rfl ?_
        refine xw_lv (b := [(0, .ref 1), (1, .int x1), (4, .int x4), (5, .int x5), (6, .long w6), (8, .long w8), (10, .int v2)]) (lvS_cons (lvS_cons (lvS_cons (lvS_cons (lvS_cons (lvS_cons (lvS_cons (lvS_nil (show ([10, 0, 1, 4, 5, 6, 8, 11] : List Nat).Nodup by decide)) rfl) rfl) rfl) rfl) rfl) rfl) rfl) ?_
        exact i0 x1 x4 x5 w6 w8 v2 h (by omega) (by omega) (by omega) K (by omega)
      · refine xi_cmf (pc' := 68) kc_166_65 rfl (xc_ge_f (X := x11.toInt) (Y := x5.toInt) rfl rfl (by omega)) ?_
        refine xi_lload (pc' := 70) (x := w6) kc_166_68 rfl rfl ?_
        refine xi_aload_n (pc' := 71) (x := 1) kc_166_70 rfl rfl ?_
        refine xp_1 K.1 (fun u3 u4 bu3 bu4 A5 => ?_)
        refine xi_getfield (pc' := 74) (v := .ref 3) kc_166_71 rfl rfl rfl A5 rfl ?_
        refine xi_iload (pc' := 76) (x := x10) kc_166_74 rfl rfl ?_
        have A6 := xk_ex K.1 xD_3
        obtain ⟨pt7, ept7, mpt7⟩ := xR_3 (i := x10) (by omega) (by omega)
        refine xj_aaload (pc' := 77) (b := pt7) kc_166_76 rfl A6 rfl (xi_in (n := 12) (by omega) (by omega)) ept7 ?_
        obtain ⟨u8, u9, u10, u11, pt12, bu8, bu9, bu10, bu11, mpt12, A13⟩ := xg_wall K.1 mpt7
        refine xi_getfield (pc' := 80) (v := .ref pt12) kc_166_77 rfl rfl rfl A13 rfl ?_
        refine xi_iload (pc' := 82) (x := x11) kc_166_80 rfl rfl ?_
        refine xcps4 (xk_arr K.1 (xGD_wall4 mpt12)) (fun y14 A14 hy14 ry14 => ?_)
        refine xcps4 (xj_get hy14 ry14 (i := x11) (by omega) (by omega)) (fun v15 ev15 bv15 dv15 => ?_)
        refine xi_iaload (pc' := 83) (v := v15) kc_166_82 rfl A14 (xk_lo mpt12 rfl) rfl (xi_in (by omega) (by rw [hy14]; omega)) ev15 ?_
        obtain ⟨v16, ev16⟩ : ∃ q, (v15 : Int32).toInt64 = q := ⟨_, rfl⟩
        refine xi_i2l (pc' := 84) (v := v16) kc_166_83 rfl ev16 ?_
        refine xcps2 (α := Int64) ((w6 : Int64) + v16) (fun v17 ev17 => ?_)
        refine xi_ladd (pc' := 85) (v := v17) kc_166_84 rfl ev17 ?_
        refine xi_lstore (pc' := 87) (lv' := [(6, .long v17), (0, .ref 1), (1, .int x1), (4, .int x4), (5, .int x5), (8, .long w8), (10, .int x10), (11, .int x11)]) kc_166_85 rfl rfl (xm_lt ml_166 rfl) ?_
        refine xi_lload (pc' := 89) (x := w8) kc_166_87 rfl rfl ?_
        refine xi_lconst (pc' := 90) (v := 1) kc_166_89 rfl rfl ?_
        refine xcps2 (α := Int64) ((w8 : Int64) + 1) (fun v18 ev18 => ?_)
        refine xi_ladd (pc' := 91) (v := v18) kc_166_90 rfl ev18 ?_
        refine xi_lstore (pc' := 93) (lv' := [(8, .long v18), (6, .long v17), (0, .ref 1), (1, .int x1), (4, .int x4), (5, .int x5), (10, .int x10), (11, .int x11)]) kc_166_91 rfl rfl (xm_lt ml_166 rfl) ?_
        refine xcps2 (α := Int32) (x11 + 1) (fun v19 ev19 => ?_)
        have zv19 : v19.toInt = (x11.toInt + 1) := by rw [← ev19]; exact (xz_add (X := x11.toInt) (Y := 1) rfl (by decide) (by omega) (by omega)).trans (by omega)
        refine xi_iinc (pc' := 96) (x := x11) (v := v19) (lv' := [(11, .int v19), (8, .long v18), (6, .long v17), (0, .ref 1), (1, .int x1), (4, .int x4), (5, .int x5), (10, .int x10)]) kc_166_93 rfl rfl ev19 rfl (xm_lt ml_166 rfl) ?_
        refine xi_goto (pc' := 61) kc_166_96 rfl ?_
        refine xw_lv (b := [(0, .ref 1), (1, .int x1), (4, .int x4), (5, .int x5), (6, .long v17), (8, .long v18), (10, .int x10), (11, .int v19)]) (lvS_cons (lvS_cons (lvS_cons (lvS_cons (lvS_cons (lvS_cons (lvS_cons (lvS_cons (lvS_nil (show ([11, 8, 6, 0, 1, 4, 5, 10] : List Nat).Nodup by decide)) rfl) rfl) rfl) rfl) rfl) rfl) rfl) rfl) ?_
        exact i1 x1 x4 x5 v17 v18 x10 v19 h (by omega) (by omega) (by omega) (by omega) K (by omega)
set_option maxHeartbeats 4000000 in
theorem mt_166_0 {J : xe_J} {ov : List (List Int32)} (hJ : ∀ d mj as h, mj ≠ xe_loff → J d mj as h = none) (hov1 : ov[1]? = some [10, 0, 0, 0, 0, 0]) (hov2 : ov[2]? = some [99, 30, 50, 50, 1, 99999]) {d : Nat} {Q : Option Value → xe_H → Prop} {h : xe_H} {x1 : Int32} {x2 : Int32} {x3 : Int32} (T : xt h) (kk : (∀ (r : Int32) (h' : xe_H), xk [(0, 9), (115, 1), (83, 0), (29, 0), (31, 0), (33, 0), (35, 0), (37, 0), (39, 0), (41, 0), (43, 0), (45, 0), (47, 0), (49, 0), (51, 0), (125, 0), (66, 8), (115, 18), (71, 0), (132, 0)] h h' → Q (some (.int r)) h')) : xw J ov (d + 1) 166 (0, [(0, .ref 1), (1, .int x1), (2, .int x2), (3, .int x3)], [], h) Q := by
  have K : xk [(0, 9), (115, 1), (83, 0), (29, 0), (31, 0), (33, 0), (35, 0), (37, 0), (39, 0), (41, 0), (43, 0), (45, 0), (47, 0), (49, 0), (51, 0), (125, 0), (66, 8), (115, 18), (71, 0), (132, 0)] h h := xk_re T
  have rx1 := xc_rng x1
  have rx2 := xc_rng x2
  have rx3 := xc_rng x3
  refine xi_iload_n (pc' := 1) (x := x2) kc_166_0 rfl rfl ?_
  by_cases c1 : 0 ≤ x2.toInt
  · refine xi_ift (pc' := 8) kc_166_1 rfl (xc_ge_t (X := x2.toInt) (Y := 0) rfl (by decide) (by omega)) ?_
    refine xi_iload_n (pc' := 9) (x := x2) kc_166_8 rfl rfl ?_
    refine xi_istore (pc' := 11) (lv' := [(4, .int x2), (0, .ref 1), (1, .int x1), (2, .int x2), (3, .int x3)]) kc_166_9 rfl rfl (xm_lt ml_166 rfl) ?_
    refine xi_iload_n (pc' := 12) (x := x3) kc_166_11 rfl rfl ?_
    refine xi_sipush (pc' := 15) (v := 600) kc_166_12 rfl rfl ?_
    by_cases c2 : x3.toInt ≤ 600
    · refine xi_cmt (pc' := 24) kc_166_15 rfl (xc_le_t (X := x3.toInt) (Y := 600) rfl (by decide) (by omega)) ?_
      refine xi_iload_n (pc' := 25) (x := x3) kc_166_24 rfl rfl ?_
      refine xi_istore (pc' := 27) (lv' := [(5, .int x3), (4, .int x2), (0, .ref 1), (1, .int x1), (2, .int x2), (3, .int x3)]) kc_166_25 rfl rfl (xm_lt ml_166 rfl) ?_
      refine xi_lconst (pc' := 28) (v := 0) kc_166_27 rfl rfl ?_
      refine xi_lstore (pc' := 30) (lv' := [(6, .long 0), (5, .int x3), (4, .int x2), (0, .ref 1), (1, .int x1), (2, .int x2), (3, .int x3)]) kc_166_28 rfl rfl (xm_lt ml_166 rfl) ?_
      refine xi_lconst (pc' := 31) (v := 0) kc_166_30 rfl rfl ?_
      refine xi_lstore (pc' := 33) (lv' := [(8, .long 0), (6, .long 0), (5, .int x3), (4, .int x2), (0, .ref 1), (1, .int x1), (2, .int x2), (3, .int x3)]) kc_166_31 rfl rfl (xm_lt ml_166 rfl) ?_
      refine xi_iconst (pc' := 34) (v := 0) kc_166_33 rfl rfl ?_
      refine xi_istore (pc' := 36) (lv' := [(10, .int 0), (8, .long 0), (6, .long 0), (5, .int x3), (4, .int x2), (0, .ref 1), (1, .int x1), (2, .int x2), (3, .int x3)]) kc_166_34 rfl rfl (xm_lt ml_166 rfl) ?_
      have zc0 : (0 : Int32).toInt = 0 := by decide
      refine xw_lv (b := [(0, .ref 1), (1, .int x1), (4, .int x2), (5, .int x3), (6, .long 0), (8, .long 0), (10, .int 0)]) (lvS_cons (lvS_cons (lvS_cons (lvS_cons (lvS_cons (lvS_cons (lvS_cons (lvS_nil (show ([10, 8, 6, 5, 4, 0, 1, 2, 3] : List Nat).Nodup by decide)) rfl) rfl) rfl) rfl) rfl) rfl) rfl) ?_
      exact (lp_166_0 hJ hov1 hov2 (d := d) (hb := h) (fun r9 h9 K9 => kk r9 h9 (xk_tr K K9 rfl)) 27917287437).1 x1 x2 x3 0 0 0 h (by omega) (by omega) (by omega) (xk_re K.1) (by omega)
    · refine xi_cmf (pc' := 18) kc_166_15 rfl (xc_le_f (X := x3.toInt) (Y := 600) rfl (by decide) (by omega)) ?_
      refine xi_sipush (pc' := 21) (v := 600) kc_166_18 rfl rfl ?_
      refine xi_goto (pc' := 25) kc_166_21 rfl ?_
      refine xi_istore (pc' := 27) (lv' := [(5, .int 600), (4, .int x2), (0, .ref 1), (1, .int x1), (2, .int x2), (3, .int x3)]) kc_166_25 rfl rfl (xm_lt ml_166 rfl) ?_
      refine xi_lconst (pc' := 28) (v := 0) kc_166_27 rfl rfl ?_
      refine xi_lstore (pc' := 30) (lv' := [(6, .long 0), (5, .int 600), (4, .int x2), (0, .ref 1), (1, .int x1), (2, .int x2), (3, .int x3)]) kc_166_28 rfl rfl (xm_lt ml_166 rfl) ?_
      refine xi_lconst (pc' := 31) (v := 0) kc_166_30 rfl rfl ?_
      refine xi_lstore (pc' := 33) (lv' := [(8, .long 0), (6, .long 0), (5, .int 600), (4, .int x2), (0, .ref 1), (1, .int x1), (2, .int x2), (3, .int x3)]) kc_166_31 rfl rfl (xm_lt ml_166 rfl) ?_
      refine xi_iconst (pc' := 34) (v := 0) kc_166_33 rfl rfl ?_
      refine xi_istore (pc' := 36) (lv' := [(10, .int 0), (8, .long 0), (6, .long 0), (5, .int 600), (4, .int x2), (0, .ref 1), (1, .int x1), (2, .int x2), (3, .int x3)]) kc_166_34 rfl rfl (xm_lt ml_166 rfl) ?_
      have zc0 : (0 : Int32).toInt = 0 := by decide
      have zc600 : (600 : Int32).toInt = 600 := by decide
      refine xw_lv (b := [(0, .ref 1), (1, .int x1), (4, .int x2), (5, .int 600), (6, .long 0), (8, .long 0), (10, .int 0)]) (lvS_cons (lvS_cons (lvS_cons (lvS_cons (lvS_cons (lvS_cons (lvS_cons (lvS_nil (show ([10, 8, 6, 5, 4, 0, 1, 2, 3] : List Nat).Nodup by decide)) rfl) rfl) rfl) rfl) rfl) rfl) rfl) ?_
      exact (lp_166_0 hJ hov1 hov2 (d := d) (hb := h) (fun r9 h9 K9 => kk r9 h9 (xk_tr K K9 rfl)) 27917287437).1 x1 x2 600 0 0 0 h (by omega) (by omega) (by omega) (xk_re K.1) (by omega)
  · refine xi_iff (pc' := 4) kc_166_1 rfl (xc_ge_f (X := x2.toInt) (Y := 0) rfl (by decide) (by omega)) ?_
    refine xi_iconst (pc' := 5) (v := 0) kc_166_4 rfl rfl ?_
    refine xi_goto (pc' := 9) kc_166_5 rfl ?_
    refine xi_istore (pc' := 11) (lv' := [(4, .int 0), (0, .ref 1), (1, .int x1), (2, .int x2), (3, .int x3)]) kc_166_9 rfl rfl (xm_lt ml_166 rfl) ?_
    refine xi_iload_n (pc' := 12) (x := x3) kc_166_11 rfl rfl ?_
    refine xi_sipush (pc' := 15) (v := 600) kc_166_12 rfl rfl ?_
    by_cases c3 : x3.toInt ≤ 600
    · refine xi_cmt (pc' := 24) kc_166_15 rfl (xc_le_t (X := x3.toInt) (Y := 600) rfl (by decide) (by omega)) ?_
      refine xi_iload_n (pc' := 25) (x := x3) kc_166_24 rfl rfl ?_
      refine xi_istore (pc' := 27) (lv' := [(5, .int x3), (4, .int 0), (0, .ref 1), (1, .int x1), (2, .int x2), (3, .int x3)]) kc_166_25 rfl rfl (xm_lt ml_166 rfl) ?_
      refine xi_lconst (pc' := 28) (v := 0) kc_166_27 rfl rfl ?_
      refine xi_lstore (pc' := 30) (lv' := [(6, .long 0), (5, .int x3), (4, .int 0), (0, .ref 1), (1, .int x1), (2, .int x2), (3, .int x3)]) kc_166_28 rfl rfl (xm_lt ml_166 rfl) ?_
      refine xi_lconst (pc' := 31) (v := 0) kc_166_30 rfl rfl ?_
      refine xi_lstore (pc' := 33) (lv' := [(8, .long 0), (6, .long 0), (5, .int x3), (4, .int 0), (0, .ref 1), (1, .int x1), (2, .int x2), (3, .int x3)]) kc_166_31 rfl rfl (xm_lt ml_166 rfl) ?_
      refine xi_iconst (pc' := 34) (v := 0) kc_166_33 rfl rfl ?_
      refine xi_istore (pc' := 36) (lv' := [(10, .int 0), (8, .long 0), (6, .long 0), (5, .int x3), (4, .int 0), (0, .ref 1), (1, .int x1), (2, .int x2), (3, .int x3)]) kc_166_34 rfl rfl (xm_lt ml_166 rfl) ?_
      have zc0 : (0 : Int32).toInt = 0 := by decide
      refine xw_lv (b := [(0, .ref 1), (1, .int x1), (4, .int 0), (5, .int x3), (6, .long 0), (8, .long 0), (10, .int 0)]) (lvS_cons (lvS_cons (lvS_cons (lvS_cons (lvS_cons (lvS_cons (lvS_cons (lvS_nil (show ([10, 8, 6, 5, 4, 0, 1, 2, 3] : List Nat).Nodup by decide)) rfl) rfl) rfl) rfl) rfl) rfl) rfl) ?_
      exact (lp_166_0 hJ hov1 hov2 (d := d) (hb := h) (fun r9 h9 K9 => kk r9 h9 (xk_tr K K9 rfl)) 27917287437).1 x1 0 x3 0 0 0 h (by omega) (by omega) (by omega) (xk_re K.1) (by omega)
    · refine xi_cmf (pc' := 18) kc_166_15 rfl (xc_le_f (X := x3.toInt) (Y := 600) rfl (by decide) (by omega)) ?_
      refine xi_sipush (pc' := 21) (v := 600) kc_166_18 rfl rfl ?_
      refine xi_goto (pc' := 25) kc_166_21 rfl ?_
      refine xi_istore (pc' := 27) (lv' := [(5, .int 600), (4, .int 0), (0, .ref 1), (1, .int x1), (2, .int x2), (3, .int x3)]) kc_166_25 rfl rfl (xm_lt ml_166 rfl) ?_
      refine xi_lconst (pc' := 28) (v := 0) kc_166_27 rfl rfl ?_
      refine xi_lstore (pc' := 30) (lv' := [(6, .long 0), (5, .int 600), (4, .int 0), (0, .ref 1), (1, .int x1), (2, .int x2), (3, .int x3)]) kc_166_28 rfl rfl (xm_lt ml_166 rfl) ?_
      refine xi_lconst (pc' := 31) (v := 0) kc_166_30 rfl rfl ?_
      refine xi_lstore (pc' := 33) (lv' := [(8, .long 0), (6, .long 0), (5, .int 600), (4, .int 0), (0, .ref 1), (1, .int x1), (2, .int x2), (3, .int x3)]) kc_166_31 rfl rfl (xm_lt ml_166 rfl) ?_
      refine xi_iconst (pc' := 34) (v := 0) kc_166_33 rfl rfl ?_
      refine xi_istore (pc' := 36) (lv' := [(10, .int 0), (8, .long 0), (6, .long 0), (5, .int 600), (4, .int 0), (0, .ref 1), (1, .int x1), (2, .int x2), (3, .int x3)]) kc_166_34 rfl rfl (xm_lt ml_166 rfl) ?_
      have zc0 : (0 : Int32).toInt = 0 := by decide
      have zc600 : (600 : Int32).toInt = 600 := by decide
      refine xw_lv (b := [(0, .ref 1), (1, .int x1), (4, .int 0), (5, .int 600), (6, .long 0), (8, .long 0), (10, .int 0)]) (lvS_cons (lvS_cons (lvS_cons (lvS_cons (lvS_cons (lvS_cons (lvS_cons (lvS_nil (show ([10, 8, 6, 5, 4, 0, 1, 2, 3] : List Nat).Nodup by decide)) rfl) rfl) rfl) rfl) rfl) rfl) rfl) ?_
      exact (lp_166_0 hJ hov1 hov2 (d := d) (hb := h) (fun r9 h9 K9 => kk r9 h9 (xk_tr K K9 rfl)) 27917287437).1 x1 0 600 0 0 0 h (by omega) (by omega) (by omega) (xk_re K.1) (by omega)
set_option maxHeartbeats 4000000 in
theorem mt_165_0 {J : xe_J} {ov : List (List Int32)} (hJ : ∀ d mj as h, mj ≠ xe_loff → J d mj as h = none) (hov1 : ov[1]? = some [10, 0, 0, 0, 0, 0]) (hov2 : ov[2]? = some [99, 30, 50, 50, 1, 99999]) {d : Nat} {Q : Option Value → xe_H → Prop} {h : xe_H} {x1 : Int32} {x2 : Int32} (T : xt h) (kk : (∀ (r : Int32) (h' : xe_H), xk [(0, 9), (115, 1), (83, 0), (29, 0), (31, 0), (33, 0), (35, 0), (37, 0), (39, 0), (41, 0), (43, 0), (45, 0), (47, 0), (49, 0), (51, 0), (125, 0), (66, 8), (115, 18), (71, 0), (132, 0)] h h' → Q (some (.int r)) h')) : xw J ov (d + 2) 165 (0, [(0, .ref 0), (1, .int x1), (2, .int x2)], [], h) Q := by
  have K : xk [(0, 9), (115, 1), (83, 0), (29, 0), (31, 0), (33, 0), (35, 0), (37, 0), (39, 0), (41, 0), (43, 0), (45, 0), (47, 0), (49, 0), (51, 0), (125, 0), (66, 8), (115, 18), (71, 0), (132, 0)] h h := xk_re T
  have rx1 := xc_rng x1
  have rx2 := xc_rng x2
  refine xi_iload_n (pc' := 1) (x := x1) kc_165_0 rfl rfl ?_
  by_cases c1 : x1.toInt < 0
  · refine xi_ift (pc' := 18) kc_165_1 rfl (xc_lt_t (X := x1.toInt) (Y := 0) rfl (by decide) (by omega)) ?_
    refine xi_aload_n (pc' := 19) (x := 0) kc_165_18 rfl rfl ?_
    refine xi_iconst (pc' := 20) (v := (-1)) kc_165_19 rfl rfl ?_
    refine xp_0 K.1 (fun u2 u3 bu2 bu3 A4 => ?_)
    refine xi_virtual (mj := 90) (as := [.int (-1)]) (st1 := []) (lv0 := [(0, .ref 0), (1, .int (-1))]) kc_165_20 rfl rfl rfl rfl rfl A4 (Nat.le_of_ble_eq_true rfl) (hJ _ _ _ _ (by decide)) (xm_le ml_90 rfl) rfl ?_
    refine xi_iload_n (pc' := 1) (x := (-1)) kc_90_0 rfl rfl ?_
    refine xi_ineg (pc' := 2) (v := 1) kc_90_1 rfl rfl ?_
    refine xi_istore_n (pc' := 3) (lv' := [(2, .int 1), (0, .ref 0), (1, .int (-1))]) kc_90_2 rfl rfl (xm_lt ml_90 rfl) ?_
    refine xi_iload_n (pc' := 4) (x := 1) kc_90_3 rfl rfl ?_
    refine xi_iff (pc' := 7) kc_90_4 rfl rfl ?_
    refine xi_iload_n (pc' := 8) (x := 1) kc_90_7 rfl rfl ?_
    refine xi_aload_n (pc' := 9) (x := 0) kc_90_8 rfl rfl ?_
    refine xi_getfield (pc' := 12) (v := .ref 94) kc_90_9 rfl rfl rfl A4 rfl ?_
    refine xcps4 (xk_arr K.1 xD_94) (fun y5 A5 hy5 ry5 => ?_)
    refine xi_arraylength (pc' := 13) (n := 7) (v := 7) kc_90_12 rfl (xl_lenI (by decide) (by decide) A5 hy5) rfl ?_
    refine xi_cmf (pc' := 16) kc_90_13 rfl rfl ?_
    refine xi_aload_n (pc' := 17) (x := 0) kc_90_16 rfl rfl ?_
    refine xi_getfield (pc' := 20) (v := .ref 94) kc_90_17 rfl rfl rfl A4 rfl ?_
    refine xi_iload_n (pc' := 21) (x := 1) kc_90_20 rfl rfl ?_
    refine xi_dup2 (pc' := 22) kc_90_21 rfl ⟨rfl, rfl⟩ ?_
    refine xcps4 (xj_get hy5 ry5 (i := 1) (by decide) (by decide)) (fun v6 ev6 bv6 dv6 => ?_)
    refine xi_iaload (pc' := 23) (v := v6) kc_90_22 rfl A5 (by decide) rfl (xi_in (by decide) (by rw [hy5]; decide)) ev6 ?_
    refine xi_iconst (pc' := 24) (v := 1) kc_90_23 rfl rfl ?_
    refine xcps2 (α := Int32) ((v6 : Int32) + 1) (fun v7 ev7 => ?_)
    have rv7 := xc_rng v7
    refine xi_iadd (pc' := 25) (v := v7) kc_90_24 rfl ev7 ?_
    refine xcps4 (xj_set (v := v7) hy5 ry5 1 (by first | omega | decide) (by first | omega | decide)) (fun y8 s8 hy8 ry8 => ?_)
    refine xi_iastore (pc' := 26) (x' := y8) kc_90_25 rfl A5 rfl (xi_in (by decide) (by rw [hy5]; decide)) s8 (fun hh8 eh8 => ?_)
    have K9 := xk_pa K (xk_wa rfl) xD_94 hy8 ry8 eh8
    refine xi_iload_n (pc' := 27) (x := (-1)) kc_90_26 rfl rfl ?_
    refine xi_ireturn kc_90_27 mr_90 rfl ?_
    show xw J ov (d + 2) 165 (23, [(0, .ref 0), (1, .int x1), (2, .int x2)], [.int (-1)], hh8) _
    refine xi_ireturn kc_165_23 mr_165 rfl ?_
    have zcm1 : ((-1) : Int32).toInt = (-1) := by decide
    exact kk (-1) hh8 K9
  · refine xi_iff (pc' := 4) kc_165_1 rfl (xc_lt_f (X := x1.toInt) (Y := 0) rfl (by decide) (by omega)) ?_
    refine xi_iload_n (pc' := 5) (x := x1) kc_165_4 rfl rfl ?_
    refine xi_aload_n (pc' := 6) (x := 0) kc_165_5 rfl rfl ?_
    refine xp_0 K.1 (fun u10 u11 bu10 bu11 A12 => ?_)
    refine xi_getfield (pc' := 9) (v := .int u10) kc_165_6 rfl rfl rfl A12 rfl ?_
    by_cases c13 : u10.toInt ≤ x1.toInt
    · refine xi_cmt (pc' := 18) kc_165_9 rfl (xc_ge_t (X := x1.toInt) (Y := u10.toInt) rfl rfl (by omega)) ?_
      refine xi_aload_n (pc' := 19) (x := 0) kc_165_18 rfl rfl ?_
      refine xi_iconst (pc' := 20) (v := (-1)) kc_165_19 rfl rfl ?_
      refine xi_virtual (mj := 90) (as := [.int (-1)]) (st1 := []) (lv0 := [(0, .ref 0), (1, .int (-1))]) kc_165_20 rfl rfl rfl rfl rfl A12 (Nat.le_of_ble_eq_true rfl) (hJ _ _ _ _ (by decide)) (xm_le ml_90 rfl) rfl ?_
      refine xi_iload_n (pc' := 1) (x := (-1)) kc_90_0 rfl rfl ?_
      refine xi_ineg (pc' := 2) (v := 1) kc_90_1 rfl rfl ?_
      refine xi_istore_n (pc' := 3) (lv' := [(2, .int 1), (0, .ref 0), (1, .int (-1))]) kc_90_2 rfl rfl (xm_lt ml_90 rfl) ?_
      refine xi_iload_n (pc' := 4) (x := 1) kc_90_3 rfl rfl ?_
      refine xi_iff (pc' := 7) kc_90_4 rfl rfl ?_
      refine xi_iload_n (pc' := 8) (x := 1) kc_90_7 rfl rfl ?_
      refine xi_aload_n (pc' := 9) (x := 0) kc_90_8 rfl rfl ?_
      refine xi_getfield (pc' := 12) (v := .ref 94) kc_90_9 rfl rfl rfl A12 rfl ?_
      refine xcps4 (xk_arr K.1 xD_94) (fun y14 A14 hy14 ry14 => ?_)
      refine xi_arraylength (pc' := 13) (n := 7) (v := 7) kc_90_12 rfl (xl_lenI (by decide) (by decide) A14 hy14) rfl ?_
      refine xi_cmf (pc' := 16) kc_90_13 rfl rfl ?_
      refine xi_aload_n (pc' := 17) (x := 0) kc_90_16 rfl rfl ?_
      refine xi_getfield (pc' := 20) (v := .ref 94) kc_90_17 rfl rfl rfl A12 rfl ?_
      refine xi_iload_n (pc' := 21) (x := 1) kc_90_20 rfl rfl ?_
      refine xi_dup2 (pc' := 22) kc_90_21 rfl ⟨rfl, rfl⟩ ?_
      refine xcps4 (xj_get hy14 ry14 (i := 1) (by decide) (by decide)) (fun v15 ev15 bv15 dv15 => ?_)
      refine xi_iaload (pc' := 23) (v := v15) kc_90_22 rfl A14 (by decide) rfl (xi_in (by decide) (by rw [hy14]; decide)) ev15 ?_
      refine xi_iconst (pc' := 24) (v := 1) kc_90_23 rfl rfl ?_
      refine xcps2 (α := Int32) ((v15 : Int32) + 1) (fun v16 ev16 => ?_)
      have rv16 := xc_rng v16
      refine xi_iadd (pc' := 25) (v := v16) kc_90_24 rfl ev16 ?_
      refine xcps4 (xj_set (v := v16) hy14 ry14 1 (by first | omega | decide) (by first | omega | decide)) (fun y17 s17 hy17 ry17 => ?_)
      refine xi_iastore (pc' := 26) (x' := y17) kc_90_25 rfl A14 rfl (xi_in (by decide) (by rw [hy14]; decide)) s17 (fun hh17 eh17 => ?_)
      have K18 := xk_pa K (xk_wa rfl) xD_94 hy17 ry17 eh17
      refine xi_iload_n (pc' := 27) (x := (-1)) kc_90_26 rfl rfl ?_
      refine xi_ireturn kc_90_27 mr_90 rfl ?_
      show xw J ov (d + 2) 165 (23, [(0, .ref 0), (1, .int x1), (2, .int x2)], [.int (-1)], hh17) _
      refine xi_ireturn kc_165_23 mr_165 rfl ?_
      have zcm1 : ((-1) : Int32).toInt = (-1) := by decide
      exact kk (-1) hh17 K18
    · refine xi_cmf (pc' := 12) kc_165_9 rfl (xc_ge_f (X := x1.toInt) (Y := u10.toInt) rfl rfl (by omega)) ?_
      refine xi_iload_n (pc' := 13) (x := x1) kc_165_12 rfl rfl ?_
      refine xi_bipush (pc' := 15) (v := 20) kc_165_13 rfl rfl ?_
      refine xi_cmt (pc' := 24) kc_165_15 rfl (xc_lt_t (X := x1.toInt) (Y := 20) rfl (by decide) (by omega)) ?_
      refine xi_iload_n (pc' := 25) (x := x2) kc_165_24 rfl rfl ?_
      by_cases c19 : x2.toInt < 0
      · refine xi_ift (pc' := 33) kc_165_25 rfl (xc_lt_t (X := x2.toInt) (Y := 0) rfl (by decide) (by omega)) ?_
        refine xi_aload_n (pc' := 34) (x := 0) kc_165_33 rfl rfl ?_
        refine xi_bipush (pc' := 36) (v := (-2)) kc_165_34 rfl rfl ?_
        refine xi_virtual (mj := 90) (as := [.int (-2)]) (st1 := []) (lv0 := [(0, .ref 0), (1, .int (-2))]) kc_165_36 rfl rfl rfl rfl rfl A12 (Nat.le_of_ble_eq_true rfl) (hJ _ _ _ _ (by decide)) (xm_le ml_90 rfl) rfl ?_
        refine xi_iload_n (pc' := 1) (x := (-2)) kc_90_0 rfl rfl ?_
        refine xi_ineg (pc' := 2) (v := 2) kc_90_1 rfl rfl ?_
        refine xi_istore_n (pc' := 3) (lv' := [(2, .int 2), (0, .ref 0), (1, .int (-2))]) kc_90_2 rfl rfl (xm_lt ml_90 rfl) ?_
        refine xi_iload_n (pc' := 4) (x := 2) kc_90_3 rfl rfl ?_
        refine xi_iff (pc' := 7) kc_90_4 rfl rfl ?_
        refine xi_iload_n (pc' := 8) (x := 2) kc_90_7 rfl rfl ?_
        refine xi_aload_n (pc' := 9) (x := 0) kc_90_8 rfl rfl ?_
        refine xi_getfield (pc' := 12) (v := .ref 94) kc_90_9 rfl rfl rfl A12 rfl ?_
        refine xcps4 (xk_arr K.1 xD_94) (fun y20 A20 hy20 ry20 => ?_)
        refine xi_arraylength (pc' := 13) (n := 7) (v := 7) kc_90_12 rfl (xl_lenI (by decide) (by decide) A20 hy20) rfl ?_
        refine xi_cmf (pc' := 16) kc_90_13 rfl rfl ?_
        refine xi_aload_n (pc' := 17) (x := 0) kc_90_16 rfl rfl ?_
        refine xi_getfield (pc' := 20) (v := .ref 94) kc_90_17 rfl rfl rfl A12 rfl ?_
        refine xi_iload_n (pc' := 21) (x := 2) kc_90_20 rfl rfl ?_
        refine xi_dup2 (pc' := 22) kc_90_21 rfl ⟨rfl, rfl⟩ ?_
        refine xcps4 (xj_get hy20 ry20 (i := 2) (by decide) (by decide)) (fun v21 ev21 bv21 dv21 => ?_)
        refine xi_iaload (pc' := 23) (v := v21) kc_90_22 rfl A20 (by decide) rfl (xi_in (by decide) (by rw [hy20]; decide)) ev21 ?_
        refine xi_iconst (pc' := 24) (v := 1) kc_90_23 rfl rfl ?_
        refine xcps2 (α := Int32) ((v21 : Int32) + 1) (fun v22 ev22 => ?_)
        have rv22 := xc_rng v22
        refine xi_iadd (pc' := 25) (v := v22) kc_90_24 rfl ev22 ?_
        refine xcps4 (xj_set (v := v22) hy20 ry20 2 (by first | omega | decide) (by first | omega | decide)) (fun y23 s23 hy23 ry23 => ?_)
        refine xi_iastore (pc' := 26) (x' := y23) kc_90_25 rfl A20 rfl (xi_in (by decide) (by rw [hy20]; decide)) s23 (fun hh23 eh23 => ?_)
        have K24 := xk_pa K (xk_wa rfl) xD_94 hy23 ry23 eh23
        refine xi_iload_n (pc' := 27) (x := (-2)) kc_90_26 rfl rfl ?_
        refine xi_ireturn kc_90_27 mr_90 rfl ?_
        show xw J ov (d + 2) 165 (39, [(0, .ref 0), (1, .int x1), (2, .int x2)], [.int (-2)], hh23) _
        refine xi_ireturn kc_165_39 mr_165 rfl ?_
        have zcm2 : ((-2) : Int32).toInt = (-2) := by decide
        exact kk (-2) hh23 K24
      · refine xi_iff (pc' := 28) kc_165_25 rfl (xc_lt_f (X := x2.toInt) (Y := 0) rfl (by decide) (by omega)) ?_
        refine xi_iload_n (pc' := 29) (x := x2) kc_165_28 rfl rfl ?_
        refine xi_iconst (pc' := 30) (v := 2) kc_165_29 rfl rfl ?_
        by_cases c25 : x2.toInt ≤ 2
        · refine xi_cmt (pc' := 40) kc_165_30 rfl (xc_le_t (X := x2.toInt) (Y := 2) rfl (by decide) (by omega)) ?_
          refine xi_aload_n (pc' := 41) (x := 0) kc_165_40 rfl rfl ?_
          refine xi_getfield (pc' := 44) (v := .ref 93) kc_165_41 rfl rfl rfl A12 rfl ?_
          refine xi_iload_n (pc' := 45) (x := x1) kc_165_44 rfl rfl ?_
          have A26 := xk_ex K.1 xD_93
          obtain ⟨pt27, ept27, mpt27⟩ := xR_93 (i := x1) (by omega) (by omega)
          refine xj_aaload (pc' := 46) (b := pt27) kc_165_45 rfl A26 rfl (xi_in (n := 20) (by omega) (by omega)) ept27 ?_
          refine xi_astore_n (pc' := 47) (lv' := [(3, .ref pt27), (0, .ref 0), (1, .int x1), (2, .int x2)]) kc_165_46 rfl rfl (xm_lt ml_165 rfl) ?_
          refine xi_aload_n (pc' := 48) (x := 0) kc_165_47 rfl rfl ?_
          refine xi_getfield (pc' := 51) (v := .int u11) kc_165_48 rfl rfl rfl A12 rfl ?_
          refine xi_aload_n (pc' := 52) (x := pt27) kc_165_51 rfl rfl ?_
          obtain ⟨u28, u29, u30, u31, u32, u33, bu28, bu29, bu30, bu31, bu32, bu33, A34⟩ := xg_trial K.1 mpt27
          refine xi_getfield (pc' := 55) (v := .int u32) kc_165_52 rfl rfl rfl A34 rfl ?_
          by_cases c35 : u32.toInt ≤ u11.toInt
          · refine xi_cmt (pc' := 65) kc_165_55 rfl (xc_ge_t (X := u11.toInt) (Y := u32.toInt) rfl rfl (by omega)) ?_
            refine xi_aload_n (pc' := 66) (x := 0) kc_165_65 rfl rfl ?_
            refine xi_getfield (pc' := 69) (v := .ref 1) kc_165_66 rfl rfl rfl A12 rfl ?_
            refine xi_aload_n (pc' := 70) (x := pt27) kc_165_69 rfl rfl ?_
            refine xi_getfield (pc' := 73) (v := .int u28) kc_165_70 rfl rfl rfl A34 rfl ?_
            refine xi_aload_n (pc' := 74) (x := pt27) kc_165_73 rfl rfl ?_
            refine xi_getfield (pc' := 77) (v := .int u31) kc_165_74 rfl rfl rfl A34 rfl ?_
            refine xi_aload_n (pc' := 78) (x := pt27) kc_165_77 rfl rfl ?_
            refine xi_getfield (pc' := 81) (v := .int u32) kc_165_78 rfl rfl rfl A34 rfl ?_
            refine xp_1 K.1 (fun u36 u37 bu36 bu37 A38 => ?_)
            refine xi_virtual (mj := 166) (as := [.int u28, .int u31, .int u32]) (st1 := []) (lv0 := [(0, .ref 1), (1, .int u28), (2, .int u31), (3, .int u32)]) kc_165_81 rfl rfl rfl rfl rfl A38 (Nat.le_of_ble_eq_true rfl) (hJ _ _ _ _ (by decide)) (xm_le ml_166 rfl) rfl ?_
            refine mt_166_0 hJ hov1 hov2 (d := d) (x1 := u28) (x2 := u31) (x3 := u32) K.1 (fun r39 hh40 K41 => ?_)
            have br39 := xc_rng r39
            have K42 := xk_tr K K41 rfl
            refine xp_0 K42.1 (fun u43 u44 bu43 bu44 A45 => ?_)
            have e46 : u11 = u44 := xk_eqi (q := 9) K41 rfl A12 A45 rfl rfl
            subst e46
            show xw J ov (d + 2) 165 (84, [(3, .ref pt27), (0, .ref 0), (1, .int x1), (2, .int x2)], [.int r39], hh40) _
            refine xi_istore (pc' := 86) (lv' := [(4, .int r39), (3, .ref pt27), (0, .ref 0), (1, .int x1), (2, .int x2)]) kc_165_84 rfl rfl (xm_lt ml_165 rfl) ?_
            refine xi_aload_n (pc' := 87) (x := 0) kc_165_86 rfl rfl ?_
            refine xi_getfield (pc' := 90) (v := .ref 1) kc_165_87 rfl rfl rfl A45 rfl ?_
            refine xi_aload_n (pc' := 91) (x := pt27) kc_165_90 rfl rfl ?_
            obtain ⟨u47, u48, u49, u50, u51, u52, bu47, bu48, bu49, bu50, bu51, bu52, A53⟩ := xg_trial K42.1 mpt27
            refine xi_getfield (pc' := 94) (v := .int u47) kc_165_91 rfl rfl rfl A53 rfl ?_
            refine xi_aload_n (pc' := 95) (x := pt27) kc_165_94 rfl rfl ?_
            refine xi_getfield (pc' := 98) (v := .int u50) kc_165_95 rfl rfl rfl A53 rfl ?_
            refine xi_aload_n (pc' := 99) (x := pt27) kc_165_98 rfl rfl ?_
            refine xi_getfield (pc' := 102) (v := .int u51) kc_165_99 rfl rfl rfl A53 rfl ?_
            refine xi_aload_n (pc' := 103) (x := pt27) kc_165_102 rfl rfl ?_
            refine xi_getfield (pc' := 106) (v := .int u50) kc_165_103 rfl rfl rfl A53 rfl ?_
            refine xcps2 (α := Int32) ((u51 : Int32) - u50) (fun v54 ev54 => ?_)
            have rv54 := xc_rng v54
            refine xi_isub (pc' := 107) (v := v54) kc_165_106 rfl ev54 ?_
            refine xcps2 (α := Int32) ((u50 : Int32) - v54) (fun v55 ev55 => ?_)
            have rv55 := xc_rng v55
            refine xi_isub (pc' := 108) (v := v55) kc_165_107 rfl ev55 ?_
            refine xi_aload_n (pc' := 109) (x := pt27) kc_165_108 rfl rfl ?_
            refine xi_getfield (pc' := 112) (v := .int u50) kc_165_109 rfl rfl rfl A53 rfl ?_
            refine xp_1 K42.1 (fun u56 u57 bu56 bu57 A58 => ?_)
            refine xi_virtual (mj := 166) (as := [.int u47, .int v55, .int u50]) (st1 := []) (lv0 := [(0, .ref 1), (1, .int u47), (2, .int v55), (3, .int u50)]) kc_165_112 rfl rfl rfl rfl rfl A58 (Nat.le_of_ble_eq_true rfl) (hJ _ _ _ _ (by decide)) (xm_le ml_166 rfl) rfl ?_
            refine mt_166_0 hJ hov1 hov2 (d := d) (x1 := u47) (x2 := v55) (x3 := u50) K42.1 (fun r59 hh60 K61 => ?_)
            have br59 := xc_rng r59
            have K62 := xk_tr K42 K61 rfl
            refine xp_0 K62.1 (fun u63 u64 bu63 bu64 A65 => ?_)
            have e66 : u11 = u64 := xk_eqi (q := 9) K61 rfl A45 A65 rfl rfl
            subst e66
            show xw J ov (d + 2) 165 (115, [(4, .int r39), (3, .ref pt27), (0, .ref 0), (1, .int x1), (2, .int x2)], [.int r59], hh60) _
            refine xi_istore (pc' := 117) (lv' := [(5, .int r59), (4, .int r39), (3, .ref pt27), (0, .ref 0), (1, .int x1), (2, .int x2)]) kc_165_115 rfl rfl (xm_lt ml_165 rfl) ?_
            refine xi_iload_n (pc' := 118) (x := x2) kc_165_117 rfl rfl ?_
            refine xi_iconst (pc' := 119) (v := 2) kc_165_118 rfl rfl ?_
            by_cases c67 : x2.toInt = 2
            · refine xi_cmf (pc' := 122) kc_165_119 rfl (xc_ne_f (X := x2.toInt) (Y := 2) rfl (by decide) (by omega)) ?_
              refine xi_iload (pc' := 124) (x := r39) kc_165_122 rfl rfl ?_
              refine xi_iload (pc' := 126) (x := r59) kc_165_124 rfl rfl ?_
              by_cases c68 : r59.toInt ≤ r39.toInt
              · refine xi_cmt (pc' := 133) kc_165_126 rfl (xc_ge_t (X := r39.toInt) (Y := r59.toInt) rfl rfl (by omega)) ?_
                refine xi_iconst (pc' := 134) (v := 0) kc_165_133 rfl rfl ?_
                refine xi_ireturn kc_165_134 mr_165 rfl ?_
                have zc0 : (0 : Int32).toInt = 0 := by decide
                exact kk 0 hh60 K62
              · refine xi_cmf (pc' := 129) kc_165_126 rfl (xc_ge_f (X := r39.toInt) (Y := r59.toInt) rfl rfl (by omega)) ?_
                refine xi_iconst (pc' := 130) (v := 1) kc_165_129 rfl rfl ?_
                refine xi_goto (pc' := 134) kc_165_130 rfl ?_
                refine xi_ireturn kc_165_134 mr_165 rfl ?_
                have zc1 : (1 : Int32).toInt = 1 := by decide
                exact kk 1 hh60 K62
            · refine xi_cmt (pc' := 135) kc_165_119 rfl (xc_ne_t (X := x2.toInt) (Y := 2) rfl (by decide) (by omega)) ?_
              refine xi_iload_n (pc' := 136) (x := x2) kc_165_135 rfl rfl ?_
              by_cases c69 : x2.toInt = 0
              · refine xi_iff (pc' := 139) kc_165_136 rfl (xc_ne_f (X := x2.toInt) (Y := 0) rfl (by decide) (by omega)) ?_
                refine xi_iload (pc' := 141) (x := r39) kc_165_139 rfl rfl ?_
                refine xi_goto (pc' := 146) kc_165_141 rfl ?_
                refine xi_ireturn kc_165_146 mr_165 rfl ?_
                exact kk r39 hh60 K62
              · refine xi_ift (pc' := 144) kc_165_136 rfl (xc_ne_t (X := x2.toInt) (Y := 0) rfl (by decide) (by omega)) ?_
                refine xi_iload (pc' := 146) (x := r59) kc_165_144 rfl rfl ?_
                refine xi_ireturn kc_165_146 mr_165 rfl ?_
                exact kk r59 hh60 K62
          · refine xi_cmf (pc' := 58) kc_165_55 rfl (xc_ge_f (X := u11.toInt) (Y := u32.toInt) rfl rfl (by omega)) ?_
            refine xi_aload_n (pc' := 59) (x := 0) kc_165_58 rfl rfl ?_
            refine xi_bipush (pc' := 61) (v := (-3)) kc_165_59 rfl rfl ?_
            refine xi_virtual (mj := 90) (as := [.int (-3)]) (st1 := []) (lv0 := [(0, .ref 0), (1, .int (-3))]) kc_165_61 rfl rfl rfl rfl rfl A12 (Nat.le_of_ble_eq_true rfl) (hJ _ _ _ _ (by decide)) (xm_le ml_90 rfl) rfl ?_
            refine xi_iload_n (pc' := 1) (x := (-3)) kc_90_0 rfl rfl ?_
            refine xi_ineg (pc' := 2) (v := 3) kc_90_1 rfl rfl ?_
            refine xi_istore_n (pc' := 3) (lv' := [(2, .int 3), (0, .ref 0), (1, .int (-3))]) kc_90_2 rfl rfl (xm_lt ml_90 rfl) ?_
            refine xi_iload_n (pc' := 4) (x := 3) kc_90_3 rfl rfl ?_
            refine xi_iff (pc' := 7) kc_90_4 rfl rfl ?_
            refine xi_iload_n (pc' := 8) (x := 3) kc_90_7 rfl rfl ?_
            refine xi_aload_n (pc' := 9) (x := 0) kc_90_8 rfl rfl ?_
            refine xi_getfield (pc' := 12) (v := .ref 94) kc_90_9 rfl rfl rfl A12 rfl ?_
            refine xcps4 (xk_arr K.1 xD_94) (fun y70 A70 hy70 ry70 => ?_)
            refine xi_arraylength (pc' := 13) (n := 7) (v := 7) kc_90_12 rfl (xl_lenI (by decide) (by decide) A70 hy70) rfl ?_
            refine xi_cmf (pc' := 16) kc_90_13 rfl rfl ?_
            refine xi_aload_n (pc' := 17) (x := 0) kc_90_16 rfl rfl ?_
            refine xi_getfield (pc' := 20) (v := .ref 94) kc_90_17 rfl rfl rfl A12 rfl ?_
            refine xi_iload_n (pc' := 21) (x := 3) kc_90_20 rfl rfl ?_
            refine xi_dup2 (pc' := 22) kc_90_21 rfl ⟨rfl, rfl⟩ ?_
            refine xcps4 (xj_get hy70 ry70 (i := 3) (by decide) (by decide)) (fun v71 ev71 bv71 dv71 => ?_)
            refine xi_iaload (pc' := 23) (v := v71) kc_90_22 rfl A70 (by decide) rfl (xi_in (by decide) (by rw [hy70]; decide)) ev71 ?_
            refine xi_iconst (pc' := 24) (v := 1) kc_90_23 rfl rfl ?_
            refine xcps2 (α := Int32) ((v71 : Int32) + 1) (fun v72 ev72 => ?_)
            have rv72 := xc_rng v72
            refine xi_iadd (pc' := 25) (v := v72) kc_90_24 rfl ev72 ?_
            refine xcps4 (xj_set (v := v72) hy70 ry70 3 (by first | omega | decide) (by first | omega | decide)) (fun y73 s73 hy73 ry73 => ?_)
            refine xi_iastore (pc' := 26) (x' := y73) kc_90_25 rfl A70 rfl (xi_in (by decide) (by rw [hy70]; decide)) s73 (fun hh73 eh73 => ?_)
            have K74 := xk_pa K (xk_wa rfl) xD_94 hy73 ry73 eh73
            refine xi_iload_n (pc' := 27) (x := (-3)) kc_90_26 rfl rfl ?_
            refine xi_ireturn kc_90_27 mr_90 rfl ?_
            show xw J ov (d + 2) 165 (64, [(3, .ref pt27), (0, .ref 0), (1, .int x1), (2, .int x2)], [.int (-3)], hh73) _
            refine xi_ireturn kc_165_64 mr_165 rfl ?_
            have zcm3 : ((-3) : Int32).toInt = (-3) := by decide
            exact kk (-3) hh73 K74
        · refine xi_cmf (pc' := 33) kc_165_30 rfl (xc_le_f (X := x2.toInt) (Y := 2) rfl (by decide) (by omega)) ?_
          refine xi_aload_n (pc' := 34) (x := 0) kc_165_33 rfl rfl ?_
          refine xi_bipush (pc' := 36) (v := (-2)) kc_165_34 rfl rfl ?_
          refine xi_virtual (mj := 90) (as := [.int (-2)]) (st1 := []) (lv0 := [(0, .ref 0), (1, .int (-2))]) kc_165_36 rfl rfl rfl rfl rfl A12 (Nat.le_of_ble_eq_true rfl) (hJ _ _ _ _ (by decide)) (xm_le ml_90 rfl) rfl ?_
          refine xi_iload_n (pc' := 1) (x := (-2)) kc_90_0 rfl rfl ?_
          refine xi_ineg (pc' := 2) (v := 2) kc_90_1 rfl rfl ?_
          refine xi_istore_n (pc' := 3) (lv' := [(2, .int 2), (0, .ref 0), (1, .int (-2))]) kc_90_2 rfl rfl (xm_lt ml_90 rfl) ?_
          refine xi_iload_n (pc' := 4) (x := 2) kc_90_3 rfl rfl ?_
          refine xi_iff (pc' := 7) kc_90_4 rfl rfl ?_
          refine xi_iload_n (pc' := 8) (x := 2) kc_90_7 rfl rfl ?_
          refine xi_aload_n (pc' := 9) (x := 0) kc_90_8 rfl rfl ?_
          refine xi_getfield (pc' := 12) (v := .ref 94) kc_90_9 rfl rfl rfl A12 rfl ?_
          refine xcps4 (xk_arr K.1 xD_94) (fun y75 A75 hy75 ry75 => ?_)
          refine xi_arraylength (pc' := 13) (n := 7) (v := 7) kc_90_12 rfl (xl_lenI (by decide) (by decide) A75 hy75) rfl ?_
          refine xi_cmf (pc' := 16) kc_90_13 rfl rfl ?_
          refine xi_aload_n (pc' := 17) (x := 0) kc_90_16 rfl rfl ?_
          refine xi_getfield (pc' := 20) (v := .ref 94) kc_90_17 rfl rfl rfl A12 rfl ?_
          refine xi_iload_n (pc' := 21) (x := 2) kc_90_20 rfl rfl ?_
          refine xi_dup2 (pc' := 22) kc_90_21 rfl ⟨rfl, rfl⟩ ?_
          refine xcps4 (xj_get hy75 ry75 (i := 2) (by decide) (by decide)) (fun v76 ev76 bv76 dv76 => ?_)
          refine xi_iaload (pc' := 23) (v := v76) kc_90_22 rfl A75 (by decide) rfl (xi_in (by decide) (by rw [hy75]; decide)) ev76 ?_
          refine xi_iconst (pc' := 24) (v := 1) kc_90_23 rfl rfl ?_
          refine xcps2 (α := Int32) ((v76 : Int32) + 1) (fun v77 ev77 => ?_)
          have rv77 := xc_rng v77
          refine xi_iadd (pc' := 25) (v := v77) kc_90_24 rfl ev77 ?_
          refine xcps4 (xj_set (v := v77) hy75 ry75 2 (by first | omega | decide) (by first | omega | decide)) (fun y78 s78 hy78 ry78 => ?_)
          refine xi_iastore (pc' := 26) (x' := y78) kc_90_25 rfl A75 rfl (xi_in (by decide) (by rw [hy75]; decide)) s78 (fun hh78 eh78 => ?_)
          have K79 := xk_pa K (xk_wa rfl) xD_94 hy78 ry78 eh78
          refine xi_iload_n (pc' := 27) (x := (-2)) kc_90_26 rfl rfl ?_
          refine xi_ireturn kc_90_27 mr_90 rfl ?_
          show xw J ov (d + 2) 165 (39, [(0, .ref 0), (1, .int x1), (2, .int x2)], [.int (-2)], hh78) _
          refine xi_ireturn kc_165_39 mr_165 rfl ?_
          have zcm2 : ((-2) : Int32).toInt = (-2) := by decide
          exact kk (-2) hh78 K79
set_option maxHeartbeats 4000000 in
theorem mt_167_0 {J : xe_J} {ov : List (List Int32)} (hJ : ∀ d mj as h, mj ≠ xe_loff → J d mj as h = none) (hov1 : ov[1]? = some [10, 0, 0, 0, 0, 0]) (hov2 : ov[2]? = some [99, 30, 50, 50, 1, 99999]) {d : Nat} {Q : Option Value → xe_H → Prop} {h : xe_H} {x1 : Int32} {x2 : Int32} {x3 : Int32} {x4 : Int32} (T : xt h) (kk : (∀ (r : Int32) (h' : xe_H), ((-2) ≤ r.toInt ∧ r.toInt ≤ 2) → xk [(0, 9), (115, 1), (29, 0), (31, 0), (33, 0), (35, 0), (37, 0), (39, 0), (41, 0), (43, 0), (45, 0), (47, 0), (49, 0), (51, 0), (125, 0), (66, 8), (115, 18), (71, 0), (132, 0)] h h' → Q (some (.int r)) h')) : xw J ov (d + 1) 167 (0, [(0, .ref 0), (1, .int x1), (2, .int x2), (3, .int x3), (4, .int x4)], [], h) Q := by
  have K : xk [(0, 9), (115, 1), (29, 0), (31, 0), (33, 0), (35, 0), (37, 0), (39, 0), (41, 0), (43, 0), (45, 0), (47, 0), (49, 0), (51, 0), (125, 0), (66, 8), (115, 18), (71, 0), (132, 0)] h h := xk_re T
  have rx1 := xc_rng x1
  have rx2 := xc_rng x2
  have rx3 := xc_rng x3
  have rx4 := xc_rng x4
  refine xi_iload_n (pc' := 1) (x := x1) kc_167_0 rfl rfl ?_
  by_cases c1 : x1.toInt < 0
  · refine xi_ift (pc' := 29) kc_167_1 rfl (xc_lt_t (X := x1.toInt) (Y := 0) rfl (by decide) (by omega)) ?_
    refine xi_aload_n (pc' := 30) (x := 0) kc_167_29 rfl rfl ?_
    refine xi_iconst (pc' := 31) (v := (-1)) kc_167_30 rfl rfl ?_
    refine xp_0 K.1 (fun u2 u3 bu2 bu3 A4 => ?_)
    refine xi_virtual (mj := 90) (as := [.int (-1)]) (st1 := []) (lv0 := [(0, .ref 0), (1, .int (-1))]) kc_167_31 rfl rfl rfl rfl rfl A4 (Nat.le_of_ble_eq_true rfl) (hJ _ _ _ _ (by decide)) (xm_le ml_90 rfl) rfl ?_
    refine xi_iload_n (pc' := 1) (x := (-1)) kc_90_0 rfl rfl ?_
    refine xi_ineg (pc' := 2) (v := 1) kc_90_1 rfl rfl ?_
    refine xi_istore_n (pc' := 3) (lv' := [(2, .int 1), (0, .ref 0), (1, .int (-1))]) kc_90_2 rfl rfl (xm_lt ml_90 rfl) ?_
    refine xi_iload_n (pc' := 4) (x := 1) kc_90_3 rfl rfl ?_
    refine xi_iff (pc' := 7) kc_90_4 rfl rfl ?_
    refine xi_iload_n (pc' := 8) (x := 1) kc_90_7 rfl rfl ?_
    refine xi_aload_n (pc' := 9) (x := 0) kc_90_8 rfl rfl ?_
    refine xi_getfield (pc' := 12) (v := .ref 94) kc_90_9 rfl rfl rfl A4 rfl ?_
    refine xcps4 (xk_arr K.1 xD_94) (fun y5 A5 hy5 ry5 => ?_)
    refine xi_arraylength (pc' := 13) (n := 7) (v := 7) kc_90_12 rfl (xl_lenI (by decide) (by decide) A5 hy5) rfl ?_
    refine xi_cmf (pc' := 16) kc_90_13 rfl rfl ?_
    refine xi_aload_n (pc' := 17) (x := 0) kc_90_16 rfl rfl ?_
    refine xi_getfield (pc' := 20) (v := .ref 94) kc_90_17 rfl rfl rfl A4 rfl ?_
    refine xi_iload_n (pc' := 21) (x := 1) kc_90_20 rfl rfl ?_
    refine xi_dup2 (pc' := 22) kc_90_21 rfl ⟨rfl, rfl⟩ ?_
    refine xcps4 (xj_get hy5 ry5 (i := 1) (by decide) (by decide)) (fun v6 ev6 bv6 dv6 => ?_)
    refine xi_iaload (pc' := 23) (v := v6) kc_90_22 rfl A5 (by decide) rfl (xi_in (by decide) (by rw [hy5]; decide)) ev6 ?_
    refine xi_iconst (pc' := 24) (v := 1) kc_90_23 rfl rfl ?_
    refine xcps2 (α := Int32) ((v6 : Int32) + 1) (fun v7 ev7 => ?_)
    have rv7 := xc_rng v7
    refine xi_iadd (pc' := 25) (v := v7) kc_90_24 rfl ev7 ?_
    refine xcps4 (xj_set (v := v7) hy5 ry5 1 (by first | omega | decide) (by first | omega | decide)) (fun y8 s8 hy8 ry8 => ?_)
    refine xi_iastore (pc' := 26) (x' := y8) kc_90_25 rfl A5 rfl (xi_in (by decide) (by rw [hy5]; decide)) s8 (fun hh8 eh8 => ?_)
    have K9 := xk_pa K (xk_wa rfl) xD_94 hy8 ry8 eh8
    refine xi_iload_n (pc' := 27) (x := (-1)) kc_90_26 rfl rfl ?_
    refine xi_ireturn kc_90_27 mr_90 rfl ?_
    show xw J ov (d + 1) 167 (34, [(0, .ref 0), (1, .int x1), (2, .int x2), (3, .int x3), (4, .int x4)], [.int (-1)], hh8) _
    refine xi_ireturn kc_167_34 mr_167 rfl ?_
    have zcm1 : ((-1) : Int32).toInt = (-1) := by decide
    exact kk (-1) hh8 (by omega) K9
  · refine xi_iff (pc' := 4) kc_167_1 rfl (xc_lt_f (X := x1.toInt) (Y := 0) rfl (by decide) (by omega)) ?_
    refine xi_iload_n (pc' := 5) (x := x1) kc_167_4 rfl rfl ?_
    refine xi_bipush (pc' := 7) (v := 24) kc_167_5 rfl rfl ?_
    by_cases c10 : 24 ≤ x1.toInt
    · refine xi_cmt (pc' := 29) kc_167_7 rfl (xc_ge_t (X := x1.toInt) (Y := 24) rfl (by decide) (by omega)) ?_
      refine xi_aload_n (pc' := 30) (x := 0) kc_167_29 rfl rfl ?_
      refine xi_iconst (pc' := 31) (v := (-1)) kc_167_30 rfl rfl ?_
      refine xp_0 K.1 (fun u11 u12 bu11 bu12 A13 => ?_)
      refine xi_virtual (mj := 90) (as := [.int (-1)]) (st1 := []) (lv0 := [(0, .ref 0), (1, .int (-1))]) kc_167_31 rfl rfl rfl rfl rfl A13 (Nat.le_of_ble_eq_true rfl) (hJ _ _ _ _ (by decide)) (xm_le ml_90 rfl) rfl ?_
      refine xi_iload_n (pc' := 1) (x := (-1)) kc_90_0 rfl rfl ?_
      refine xi_ineg (pc' := 2) (v := 1) kc_90_1 rfl rfl ?_
      refine xi_istore_n (pc' := 3) (lv' := [(2, .int 1), (0, .ref 0), (1, .int (-1))]) kc_90_2 rfl rfl (xm_lt ml_90 rfl) ?_
      refine xi_iload_n (pc' := 4) (x := 1) kc_90_3 rfl rfl ?_
      refine xi_iff (pc' := 7) kc_90_4 rfl rfl ?_
      refine xi_iload_n (pc' := 8) (x := 1) kc_90_7 rfl rfl ?_
      refine xi_aload_n (pc' := 9) (x := 0) kc_90_8 rfl rfl ?_
      refine xi_getfield (pc' := 12) (v := .ref 94) kc_90_9 rfl rfl rfl A13 rfl ?_
      refine xcps4 (xk_arr K.1 xD_94) (fun y14 A14 hy14 ry14 => ?_)
      refine xi_arraylength (pc' := 13) (n := 7) (v := 7) kc_90_12 rfl (xl_lenI (by decide) (by decide) A14 hy14) rfl ?_
      refine xi_cmf (pc' := 16) kc_90_13 rfl rfl ?_
      refine xi_aload_n (pc' := 17) (x := 0) kc_90_16 rfl rfl ?_
      refine xi_getfield (pc' := 20) (v := .ref 94) kc_90_17 rfl rfl rfl A13 rfl ?_
      refine xi_iload_n (pc' := 21) (x := 1) kc_90_20 rfl rfl ?_
      refine xi_dup2 (pc' := 22) kc_90_21 rfl ⟨rfl, rfl⟩ ?_
      refine xcps4 (xj_get hy14 ry14 (i := 1) (by decide) (by decide)) (fun v15 ev15 bv15 dv15 => ?_)
      refine xi_iaload (pc' := 23) (v := v15) kc_90_22 rfl A14 (by decide) rfl (xi_in (by decide) (by rw [hy14]; decide)) ev15 ?_
      refine xi_iconst (pc' := 24) (v := 1) kc_90_23 rfl rfl ?_
      refine xcps2 (α := Int32) ((v15 : Int32) + 1) (fun v16 ev16 => ?_)
      have rv16 := xc_rng v16
      refine xi_iadd (pc' := 25) (v := v16) kc_90_24 rfl ev16 ?_
      refine xcps4 (xj_set (v := v16) hy14 ry14 1 (by first | omega | decide) (by first | omega | decide)) (fun y17 s17 hy17 ry17 => ?_)
      refine xi_iastore (pc' := 26) (x' := y17) kc_90_25 rfl A14 rfl (xi_in (by decide) (by rw [hy14]; decide)) s17 (fun hh17 eh17 => ?_)
      have K18 := xk_pa K (xk_wa rfl) xD_94 hy17 ry17 eh17
      refine xi_iload_n (pc' := 27) (x := (-1)) kc_90_26 rfl rfl ?_
      refine xi_ireturn kc_90_27 mr_90 rfl ?_
      show xw J ov (d + 1) 167 (34, [(0, .ref 0), (1, .int x1), (2, .int x2), (3, .int x3), (4, .int x4)], [.int (-1)], hh17) _
      refine xi_ireturn kc_167_34 mr_167 rfl ?_
      have zcm1 : ((-1) : Int32).toInt = (-1) := by decide
      exact kk (-1) hh17 (by omega) K18
    · refine xi_cmf (pc' := 10) kc_167_7 rfl (xc_ge_f (X := x1.toInt) (Y := 24) rfl (by decide) (by omega)) ?_
      refine xi_iload_n (pc' := 11) (x := x2) kc_167_10 rfl rfl ?_
      by_cases c19 : x2.toInt < 0
      · refine xi_ift (pc' := 29) kc_167_11 rfl (xc_lt_t (X := x2.toInt) (Y := 0) rfl (by decide) (by omega)) ?_
        refine xi_aload_n (pc' := 30) (x := 0) kc_167_29 rfl rfl ?_
        refine xi_iconst (pc' := 31) (v := (-1)) kc_167_30 rfl rfl ?_
        refine xp_0 K.1 (fun u20 u21 bu20 bu21 A22 => ?_)
        refine xi_virtual (mj := 90) (as := [.int (-1)]) (st1 := []) (lv0 := [(0, .ref 0), (1, .int (-1))]) kc_167_31 rfl rfl rfl rfl rfl A22 (Nat.le_of_ble_eq_true rfl) (hJ _ _ _ _ (by decide)) (xm_le ml_90 rfl) rfl ?_
        refine xi_iload_n (pc' := 1) (x := (-1)) kc_90_0 rfl rfl ?_
        refine xi_ineg (pc' := 2) (v := 1) kc_90_1 rfl rfl ?_
        refine xi_istore_n (pc' := 3) (lv' := [(2, .int 1), (0, .ref 0), (1, .int (-1))]) kc_90_2 rfl rfl (xm_lt ml_90 rfl) ?_
        refine xi_iload_n (pc' := 4) (x := 1) kc_90_3 rfl rfl ?_
        refine xi_iff (pc' := 7) kc_90_4 rfl rfl ?_
        refine xi_iload_n (pc' := 8) (x := 1) kc_90_7 rfl rfl ?_
        refine xi_aload_n (pc' := 9) (x := 0) kc_90_8 rfl rfl ?_
        refine xi_getfield (pc' := 12) (v := .ref 94) kc_90_9 rfl rfl rfl A22 rfl ?_
        refine xcps4 (xk_arr K.1 xD_94) (fun y23 A23 hy23 ry23 => ?_)
        refine xi_arraylength (pc' := 13) (n := 7) (v := 7) kc_90_12 rfl (xl_lenI (by decide) (by decide) A23 hy23) rfl ?_
        refine xi_cmf (pc' := 16) kc_90_13 rfl rfl ?_
        refine xi_aload_n (pc' := 17) (x := 0) kc_90_16 rfl rfl ?_
        refine xi_getfield (pc' := 20) (v := .ref 94) kc_90_17 rfl rfl rfl A22 rfl ?_
        refine xi_iload_n (pc' := 21) (x := 1) kc_90_20 rfl rfl ?_
        refine xi_dup2 (pc' := 22) kc_90_21 rfl ⟨rfl, rfl⟩ ?_
        refine xcps4 (xj_get hy23 ry23 (i := 1) (by decide) (by decide)) (fun v24 ev24 bv24 dv24 => ?_)
        refine xi_iaload (pc' := 23) (v := v24) kc_90_22 rfl A23 (by decide) rfl (xi_in (by decide) (by rw [hy23]; decide)) ev24 ?_
        refine xi_iconst (pc' := 24) (v := 1) kc_90_23 rfl rfl ?_
        refine xcps2 (α := Int32) ((v24 : Int32) + 1) (fun v25 ev25 => ?_)
        have rv25 := xc_rng v25
        refine xi_iadd (pc' := 25) (v := v25) kc_90_24 rfl ev25 ?_
        refine xcps4 (xj_set (v := v25) hy23 ry23 1 (by first | omega | decide) (by first | omega | decide)) (fun y26 s26 hy26 ry26 => ?_)
        refine xi_iastore (pc' := 26) (x' := y26) kc_90_25 rfl A23 rfl (xi_in (by decide) (by rw [hy23]; decide)) s26 (fun hh26 eh26 => ?_)
        have K27 := xk_pa K (xk_wa rfl) xD_94 hy26 ry26 eh26
        refine xi_iload_n (pc' := 27) (x := (-1)) kc_90_26 rfl rfl ?_
        refine xi_ireturn kc_90_27 mr_90 rfl ?_
        show xw J ov (d + 1) 167 (34, [(0, .ref 0), (1, .int x1), (2, .int x2), (3, .int x3), (4, .int x4)], [.int (-1)], hh26) _
        refine xi_ireturn kc_167_34 mr_167 rfl ?_
        have zcm1 : ((-1) : Int32).toInt = (-1) := by decide
        exact kk (-1) hh26 (by omega) K27
      · refine xi_iff (pc' := 14) kc_167_11 rfl (xc_lt_f (X := x2.toInt) (Y := 0) rfl (by decide) (by omega)) ?_
        refine xi_iload_n (pc' := 15) (x := x2) kc_167_14 rfl rfl ?_
        refine xi_iconst (pc' := 16) (v := 4) kc_167_15 rfl rfl ?_
        by_cases c28 : 4 ≤ x2.toInt
        · refine xi_cmt (pc' := 29) kc_167_16 rfl (xc_ge_t (X := x2.toInt) (Y := 4) rfl (by decide) (by omega)) ?_
          refine xi_aload_n (pc' := 30) (x := 0) kc_167_29 rfl rfl ?_
          refine xi_iconst (pc' := 31) (v := (-1)) kc_167_30 rfl rfl ?_
          refine xp_0 K.1 (fun u29 u30 bu29 bu30 A31 => ?_)
          refine xi_virtual (mj := 90) (as := [.int (-1)]) (st1 := []) (lv0 := [(0, .ref 0), (1, .int (-1))]) kc_167_31 rfl rfl rfl rfl rfl A31 (Nat.le_of_ble_eq_true rfl) (hJ _ _ _ _ (by decide)) (xm_le ml_90 rfl) rfl ?_
          refine xi_iload_n (pc' := 1) (x := (-1)) kc_90_0 rfl rfl ?_
          refine xi_ineg (pc' := 2) (v := 1) kc_90_1 rfl rfl ?_
          refine xi_istore_n (pc' := 3) (lv' := [(2, .int 1), (0, .ref 0), (1, .int (-1))]) kc_90_2 rfl rfl (xm_lt ml_90 rfl) ?_
          refine xi_iload_n (pc' := 4) (x := 1) kc_90_3 rfl rfl ?_
          refine xi_iff (pc' := 7) kc_90_4 rfl rfl ?_
          refine xi_iload_n (pc' := 8) (x := 1) kc_90_7 rfl rfl ?_
          refine xi_aload_n (pc' := 9) (x := 0) kc_90_8 rfl rfl ?_
          refine xi_getfield (pc' := 12) (v := .ref 94) kc_90_9 rfl rfl rfl A31 rfl ?_
          refine xcps4 (xk_arr K.1 xD_94) (fun y32 A32 hy32 ry32 => ?_)
          refine xi_arraylength (pc' := 13) (n := 7) (v := 7) kc_90_12 rfl (xl_lenI (by decide) (by decide) A32 hy32) rfl ?_
          refine xi_cmf (pc' := 16) kc_90_13 rfl rfl ?_
          refine xi_aload_n (pc' := 17) (x := 0) kc_90_16 rfl rfl ?_
          refine xi_getfield (pc' := 20) (v := .ref 94) kc_90_17 rfl rfl rfl A31 rfl ?_
          refine xi_iload_n (pc' := 21) (x := 1) kc_90_20 rfl rfl ?_
          refine xi_dup2 (pc' := 22) kc_90_21 rfl ⟨rfl, rfl⟩ ?_
          refine xcps4 (xj_get hy32 ry32 (i := 1) (by decide) (by decide)) (fun v33 ev33 bv33 dv33 => ?_)
          refine xi_iaload (pc' := 23) (v := v33) kc_90_22 rfl A32 (by decide) rfl (xi_in (by decide) (by rw [hy32]; decide)) ev33 ?_
          refine xi_iconst (pc' := 24) (v := 1) kc_90_23 rfl rfl ?_
          refine xcps2 (α := Int32) ((v33 : Int32) + 1) (fun v34 ev34 => ?_)
          have rv34 := xc_rng v34
          refine xi_iadd (pc' := 25) (v := v34) kc_90_24 rfl ev34 ?_
          refine xcps4 (xj_set (v := v34) hy32 ry32 1 (by first | omega | decide) (by first | omega | decide)) (fun y35 s35 hy35 ry35 => ?_)
          refine xi_iastore (pc' := 26) (x' := y35) kc_90_25 rfl A32 rfl (xi_in (by decide) (by rw [hy32]; decide)) s35 (fun hh35 eh35 => ?_)
          have K36 := xk_pa K (xk_wa rfl) xD_94 hy35 ry35 eh35
          refine xi_iload_n (pc' := 27) (x := (-1)) kc_90_26 rfl rfl ?_
          refine xi_ireturn kc_90_27 mr_90 rfl ?_
          show xw J ov (d + 1) 167 (34, [(0, .ref 0), (1, .int x1), (2, .int x2), (3, .int x3), (4, .int x4)], [.int (-1)], hh35) _
          refine xi_ireturn kc_167_34 mr_167 rfl ?_
          have zcm1 : ((-1) : Int32).toInt = (-1) := by decide
          exact kk (-1) hh35 (by omega) K36
        · refine xi_cmf (pc' := 19) kc_167_16 rfl (xc_ge_f (X := x2.toInt) (Y := 4) rfl (by decide) (by omega)) ?_
          refine xi_iload_n (pc' := 20) (x := x3) kc_167_19 rfl rfl ?_
          by_cases c37 : x3.toInt < 0
          · refine xi_ift (pc' := 29) kc_167_20 rfl (xc_lt_t (X := x3.toInt) (Y := 0) rfl (by decide) (by omega)) ?_
            refine xi_aload_n (pc' := 30) (x := 0) kc_167_29 rfl rfl ?_
            refine xi_iconst (pc' := 31) (v := (-1)) kc_167_30 rfl rfl ?_
            refine xp_0 K.1 (fun u38 u39 bu38 bu39 A40 => ?_)
            refine xi_virtual (mj := 90) (as := [.int (-1)]) (st1 := []) (lv0 := [(0, .ref 0), (1, .int (-1))]) kc_167_31 rfl rfl rfl rfl rfl A40 (Nat.le_of_ble_eq_true rfl) (hJ _ _ _ _ (by decide)) (xm_le ml_90 rfl) rfl ?_
            refine xi_iload_n (pc' := 1) (x := (-1)) kc_90_0 rfl rfl ?_
            refine xi_ineg (pc' := 2) (v := 1) kc_90_1 rfl rfl ?_
            refine xi_istore_n (pc' := 3) (lv' := [(2, .int 1), (0, .ref 0), (1, .int (-1))]) kc_90_2 rfl rfl (xm_lt ml_90 rfl) ?_
            refine xi_iload_n (pc' := 4) (x := 1) kc_90_3 rfl rfl ?_
            refine xi_iff (pc' := 7) kc_90_4 rfl rfl ?_
            refine xi_iload_n (pc' := 8) (x := 1) kc_90_7 rfl rfl ?_
            refine xi_aload_n (pc' := 9) (x := 0) kc_90_8 rfl rfl ?_
            refine xi_getfield (pc' := 12) (v := .ref 94) kc_90_9 rfl rfl rfl A40 rfl ?_
            refine xcps4 (xk_arr K.1 xD_94) (fun y41 A41 hy41 ry41 => ?_)
            refine xi_arraylength (pc' := 13) (n := 7) (v := 7) kc_90_12 rfl (xl_lenI (by decide) (by decide) A41 hy41) rfl ?_
            refine xi_cmf (pc' := 16) kc_90_13 rfl rfl ?_
            refine xi_aload_n (pc' := 17) (x := 0) kc_90_16 rfl rfl ?_
            refine xi_getfield (pc' := 20) (v := .ref 94) kc_90_17 rfl rfl rfl A40 rfl ?_
            refine xi_iload_n (pc' := 21) (x := 1) kc_90_20 rfl rfl ?_
            refine xi_dup2 (pc' := 22) kc_90_21 rfl ⟨rfl, rfl⟩ ?_
            refine xcps4 (xj_get hy41 ry41 (i := 1) (by decide) (by decide)) (fun v42 ev42 bv42 dv42 => ?_)
            refine xi_iaload (pc' := 23) (v := v42) kc_90_22 rfl A41 (by decide) rfl (xi_in (by decide) (by rw [hy41]; decide)) ev42 ?_
            refine xi_iconst (pc' := 24) (v := 1) kc_90_23 rfl rfl ?_
            refine xcps2 (α := Int32) ((v42 : Int32) + 1) (fun v43 ev43 => ?_)
            have rv43 := xc_rng v43
            refine xi_iadd (pc' := 25) (v := v43) kc_90_24 rfl ev43 ?_
            refine xcps4 (xj_set (v := v43) hy41 ry41 1 (by first | omega | decide) (by first | omega | decide)) (fun y44 s44 hy44 ry44 => ?_)
            refine xi_iastore (pc' := 26) (x' := y44) kc_90_25 rfl A41 rfl (xi_in (by decide) (by rw [hy41]; decide)) s44 (fun hh44 eh44 => ?_)
            have K45 := xk_pa K (xk_wa rfl) xD_94 hy44 ry44 eh44
            refine xi_iload_n (pc' := 27) (x := (-1)) kc_90_26 rfl rfl ?_
            refine xi_ireturn kc_90_27 mr_90 rfl ?_
            show xw J ov (d + 1) 167 (34, [(0, .ref 0), (1, .int x1), (2, .int x2), (3, .int x3), (4, .int x4)], [.int (-1)], hh44) _
            refine xi_ireturn kc_167_34 mr_167 rfl ?_
            have zcm1 : ((-1) : Int32).toInt = (-1) := by decide
            exact kk (-1) hh44 (by omega) K45
          · refine xi_iff (pc' := 23) kc_167_20 rfl (xc_lt_f (X := x3.toInt) (Y := 0) rfl (by decide) (by omega)) ?_
            refine xi_iload_n (pc' := 24) (x := x3) kc_167_23 rfl rfl ?_
            refine xi_bipush (pc' := 26) (v := 6) kc_167_24 rfl rfl ?_
            by_cases c46 : x3.toInt < 6
            · refine xi_cmt (pc' := 35) kc_167_26 rfl (xc_lt_t (X := x3.toInt) (Y := 6) rfl (by decide) (by omega)) ?_
              refine xi_iload (pc' := 37) (x := x4) kc_167_35 rfl rfl ?_
              by_cases c47 : x4.toInt < 0
              · refine xi_ift (pc' := 46) kc_167_37 rfl (xc_lt_t (X := x4.toInt) (Y := 0) rfl (by decide) (by omega)) ?_
                refine xi_aload_n (pc' := 47) (x := 0) kc_167_46 rfl rfl ?_
                refine xi_bipush (pc' := 49) (v := (-2)) kc_167_47 rfl rfl ?_
                refine xp_0 K.1 (fun u48 u49 bu48 bu49 A50 => ?_)
                refine xi_virtual (mj := 90) (as := [.int (-2)]) (st1 := []) (lv0 := [(0, .ref 0), (1, .int (-2))]) kc_167_49 rfl rfl rfl rfl rfl A50 (Nat.le_of_ble_eq_true rfl) (hJ _ _ _ _ (by decide)) (xm_le ml_90 rfl) rfl ?_
                refine xi_iload_n (pc' := 1) (x := (-2)) kc_90_0 rfl rfl ?_
                refine xi_ineg (pc' := 2) (v := 2) kc_90_1 rfl rfl ?_
                refine xi_istore_n (pc' := 3) (lv' := [(2, .int 2), (0, .ref 0), (1, .int (-2))]) kc_90_2 rfl rfl (xm_lt ml_90 rfl) ?_
                refine xi_iload_n (pc' := 4) (x := 2) kc_90_3 rfl rfl ?_
                refine xi_iff (pc' := 7) kc_90_4 rfl rfl ?_
                refine xi_iload_n (pc' := 8) (x := 2) kc_90_7 rfl rfl ?_
                refine xi_aload_n (pc' := 9) (x := 0) kc_90_8 rfl rfl ?_
                refine xi_getfield (pc' := 12) (v := .ref 94) kc_90_9 rfl rfl rfl A50 rfl ?_
                refine xcps4 (xk_arr K.1 xD_94) (fun y51 A51 hy51 ry51 => ?_)
                refine xi_arraylength (pc' := 13) (n := 7) (v := 7) kc_90_12 rfl (xl_lenI (by decide) (by decide) A51 hy51) rfl ?_
                refine xi_cmf (pc' := 16) kc_90_13 rfl rfl ?_
                refine xi_aload_n (pc' := 17) (x := 0) kc_90_16 rfl rfl ?_
                refine xi_getfield (pc' := 20) (v := .ref 94) kc_90_17 rfl rfl rfl A50 rfl ?_
                refine xi_iload_n (pc' := 21) (x := 2) kc_90_20 rfl rfl ?_
                refine xi_dup2 (pc' := 22) kc_90_21 rfl ⟨rfl, rfl⟩ ?_
                refine xcps4 (xj_get hy51 ry51 (i := 2) (by decide) (by decide)) (fun v52 ev52 bv52 dv52 => ?_)
                refine xi_iaload (pc' := 23) (v := v52) kc_90_22 rfl A51 (by decide) rfl (xi_in (by decide) (by rw [hy51]; decide)) ev52 ?_
                refine xi_iconst (pc' := 24) (v := 1) kc_90_23 rfl rfl ?_
                refine xcps2 (α := Int32) ((v52 : Int32) + 1) (fun v53 ev53 => ?_)
                have rv53 := xc_rng v53
                refine xi_iadd (pc' := 25) (v := v53) kc_90_24 rfl ev53 ?_
                refine xcps4 (xj_set (v := v53) hy51 ry51 2 (by first | omega | decide) (by first | omega | decide)) (fun y54 s54 hy54 ry54 => ?_)
                refine xi_iastore (pc' := 26) (x' := y54) kc_90_25 rfl A51 rfl (xi_in (by decide) (by rw [hy51]; decide)) s54 (fun hh54 eh54 => ?_)
                have K55 := xk_pa K (xk_wa rfl) xD_94 hy54 ry54 eh54
                refine xi_iload_n (pc' := 27) (x := (-2)) kc_90_26 rfl rfl ?_
                refine xi_ireturn kc_90_27 mr_90 rfl ?_
                show xw J ov (d + 1) 167 (52, [(0, .ref 0), (1, .int x1), (2, .int x2), (3, .int x3), (4, .int x4)], [.int (-2)], hh54) _
                refine xi_ireturn kc_167_52 mr_167 rfl ?_
                have zcm2 : ((-2) : Int32).toInt = (-2) := by decide
                exact kk (-2) hh54 (by omega) K55
              · refine xi_iff (pc' := 40) kc_167_37 rfl (xc_lt_f (X := x4.toInt) (Y := 0) rfl (by decide) (by omega)) ?_
                refine xi_iload (pc' := 42) (x := x4) kc_167_40 rfl rfl ?_
                refine xi_iconst (pc' := 43) (v := 2) kc_167_42 rfl rfl ?_
                by_cases c56 : x4.toInt ≤ 2
                · refine xi_cmt (pc' := 53) kc_167_43 rfl (xc_le_t (X := x4.toInt) (Y := 2) rfl (by decide) (by omega)) ?_
                  refine xi_aload_n (pc' := 54) (x := 0) kc_167_53 rfl rfl ?_
                  refine xp_0 K.1 (fun u57 u58 bu57 bu58 A59 => ?_)
                  refine xi_getfield (pc' := 57) (v := .ref 80) kc_167_54 rfl rfl rfl A59 rfl ?_
                  refine xi_iload_n (pc' := 58) (x := x1) kc_167_57 rfl rfl ?_
                  refine xi_iload_n (pc' := 59) (x := x2) kc_167_58 rfl rfl ?_
                  refine xi_iload_n (pc' := 60) (x := x3) kc_167_59 rfl rfl ?_
                  refine xi_iload (pc' := 62) (x := x4) kc_167_60 rfl rfl ?_
                  have A60 := xq_80 K.1
                  refine xi_virtual (mj := 168) (as := [.int x1, .int x2, .int x3, .int x4]) (st1 := []) (lv0 := [(0, .ref 80), (1, .int x1), (2, .int x2), (3, .int x3), (4, .int x4)]) kc_167_62 rfl rfl rfl rfl rfl A60 (Nat.le_of_ble_eq_true rfl) (hJ _ _ _ _ (by decide)) (xm_le ml_168 rfl) rfl ?_
                  refine xi_iload_n (pc' := 1) (x := x1) kc_168_0 rfl rfl ?_
                  refine xi_iff (pc' := 4) kc_168_1 rfl (xc_lt_f (X := x1.toInt) (Y := 0) rfl (by decide) (by omega)) ?_
                  refine xi_iload_n (pc' := 5) (x := x1) kc_168_4 rfl rfl ?_
                  refine xi_bipush (pc' := 7) (v := 24) kc_168_5 rfl rfl ?_
                  refine xi_cmt (pc' := 12) kc_168_7 rfl (xc_lt_t (X := x1.toInt) (Y := 24) rfl (by decide) (by omega)) ?_
                  refine xi_aload_n (pc' := 13) (x := 80) kc_168_12 rfl rfl ?_
                  refine xi_getfield (pc' := 16) (v := .ref 83) kc_168_13 rfl rfl rfl A60 rfl ?_
                  refine xi_iload_n (pc' := 17) (x := x1) kc_168_16 rfl rfl ?_
                  refine xcps4 (xk_arr K.1 xD_83) (fun y61 A61 hy61 ry61 => ?_)
                  refine xcps4 (xj_get hy61 ry61 (i := x1) (by omega) (by omega)) (fun v62 ev62 bv62 dv62 => ?_)
                  refine xi_iaload (pc' := 18) (v := v62) kc_168_17 rfl A61 (by decide) rfl (xi_in (by omega) (by rw [hy61]; omega)) ev62 ?_
                  refine xi_istore (pc' := 20) (lv' := [(5, .int v62), (0, .ref 80), (1, .int x1), (2, .int x2), (3, .int x3), (4, .int x4)]) kc_168_18 rfl rfl (xm_lt ml_168 rfl) ?_
                  refine xi_aload_n (pc' := 21) (x := 80) kc_168_20 rfl rfl ?_
                  refine xi_getfield (pc' := 24) (v := .ref 81) kc_168_21 rfl rfl rfl A60 rfl ?_
                  refine xi_iload_n (pc' := 25) (x := x1) kc_168_24 rfl rfl ?_
                  refine xi_iload_n (pc' := 26) (x := x2) kc_168_25 rfl rfl ?_
                  refine xcps4 (xk_arr K.1 xD_81) (fun y63 A63 hy63 ry63 => ?_)
                  refine xcps4 (xj_set (v := x2) hy63 ry63 x1 (by first | omega | decide) (by first | omega | decide)) (fun y64 s64 hy64 ry64 => ?_)
                  refine xi_iastore (pc' := 27) (x' := y64) kc_168_26 rfl A63 rfl (xi_in (by omega) (by rw [hy63]; omega)) s64 (fun hh64 eh64 => ?_)
                  have K65 := xk_pa K (xk_wa rfl) xD_81 hy64 ry64 eh64
                  refine xi_aload_n (pc' := 28) (x := 80) kc_168_27 rfl rfl ?_
                  have A66 := ((eh64.2.1 80 (by decide)).trans A60)
                  refine xi_getfield (pc' := 31) (v := .ref 82) kc_168_28 rfl rfl rfl A66 rfl ?_
                  refine xi_iload_n (pc' := 32) (x := x1) kc_168_31 rfl rfl ?_
                  refine xi_iload_n (pc' := 33) (x := x3) kc_168_32 rfl rfl ?_
                  refine xcps4 (xk_arr K65.1 xD_82) (fun y67 A67 hy67 ry67 => ?_)
                  refine xcps4 (xj_set (v := x3) hy67 ry67 x1 (by first | omega | decide) (by first | omega | decide)) (fun y68 s68 hy68 ry68 => ?_)
                  refine xi_iastore (pc' := 34) (x' := y68) kc_168_33 rfl A67 rfl (xi_in (by omega) (by rw [hy67]; omega)) s68 (fun hh68 eh68 => ?_)
                  have K69 := xk_pa K65 (xk_wa rfl) xD_82 hy68 ry68 eh68
                  refine xi_aload_n (pc' := 35) (x := 80) kc_168_34 rfl rfl ?_
                  have A70 := ((eh68.2.1 80 (by decide)).trans A66)
                  refine xi_getfield (pc' := 38) (v := .ref 83) kc_168_35 rfl rfl rfl A70 rfl ?_
                  refine xi_iload_n (pc' := 39) (x := x1) kc_168_38 rfl rfl ?_
                  refine xi_iload (pc' := 41) (x := x4) kc_168_39 rfl rfl ?_
                  have A71 := ((eh68.2.1 83 (by decide)).trans ((eh64.2.1 83 (by decide)).trans A61))
                  refine xcps4 (xj_set (v := x4) hy61 ry61 x1 (by first | omega | decide) (by first | omega | decide)) (fun y72 s72 hy72 ry72 => ?_)
                  refine xi_iastore (pc' := 42) (x' := y72) kc_168_41 rfl A71 rfl (xi_in (by omega) (by rw [hy61]; omega)) s72 (fun hh72 eh72 => ?_)
                  have K73 := xk_pa K69 (xk_wa rfl) xD_83 hy72 ry72 eh72
                  refine xi_iload (pc' := 44) (x := v62) kc_168_42 rfl rfl ?_
                  refine xi_ireturn kc_168_44 mr_168 rfl ?_
                  show xw J ov (d + 1) 167 (65, [(0, .ref 0), (1, .int x1), (2, .int x2), (3, .int x3), (4, .int x4)], [.int v62], hh72) _
                  refine xi_ireturn kc_167_65 mr_167 rfl ?_
                  exact kk v62 hh72 (by omega) K73
                · refine xi_cmf (pc' := 46) kc_167_43 rfl (xc_le_f (X := x4.toInt) (Y := 2) rfl (by decide) (by omega)) ?_
                  refine xi_aload_n (pc' := 47) (x := 0) kc_167_46 rfl rfl ?_
                  refine xi_bipush (pc' := 49) (v := (-2)) kc_167_47 rfl rfl ?_
                  refine xp_0 K.1 (fun u74 u75 bu74 bu75 A76 => ?_)
                  refine xi_virtual (mj := 90) (as := [.int (-2)]) (st1 := []) (lv0 := [(0, .ref 0), (1, .int (-2))]) kc_167_49 rfl rfl rfl rfl rfl A76 (Nat.le_of_ble_eq_true rfl) (hJ _ _ _ _ (by decide)) (xm_le ml_90 rfl) rfl ?_
                  refine xi_iload_n (pc' := 1) (x := (-2)) kc_90_0 rfl rfl ?_
                  refine xi_ineg (pc' := 2) (v := 2) kc_90_1 rfl rfl ?_
                  refine xi_istore_n (pc' := 3) (lv' := [(2, .int 2), (0, .ref 0), (1, .int (-2))]) kc_90_2 rfl rfl (xm_lt ml_90 rfl) ?_
                  refine xi_iload_n (pc' := 4) (x := 2) kc_90_3 rfl rfl ?_
                  refine xi_iff (pc' := 7) kc_90_4 rfl rfl ?_
                  refine xi_iload_n (pc' := 8) (x := 2) kc_90_7 rfl rfl ?_
                  refine xi_aload_n (pc' := 9) (x := 0) kc_90_8 rfl rfl ?_
                  refine xi_getfield (pc' := 12) (v := .ref 94) kc_90_9 rfl rfl rfl A76 rfl ?_
                  refine xcps4 (xk_arr K.1 xD_94) (fun y77 A77 hy77 ry77 => ?_)
                  refine xi_arraylength (pc' := 13) (n := 7) (v := 7) kc_90_12 rfl (xl_lenI (by decide) (by decide) A77 hy77) rfl ?_
                  refine xi_cmf (pc' := 16) kc_90_13 rfl rfl ?_
                  refine xi_aload_n (pc' := 17) (x := 0) kc_90_16 rfl rfl ?_
                  refine xi_getfield (pc' := 20) (v := .ref 94) kc_90_17 rfl rfl rfl A76 rfl ?_
                  refine xi_iload_n (pc' := 21) (x := 2) kc_90_20 rfl rfl ?_
                  refine xi_dup2 (pc' := 22) kc_90_21 rfl ⟨rfl, rfl⟩ ?_
                  refine xcps4 (xj_get hy77 ry77 (i := 2) (by decide) (by decide)) (fun v78 ev78 bv78 dv78 => ?_)
                  refine xi_iaload (pc' := 23) (v := v78) kc_90_22 rfl A77 (by decide) rfl (xi_in (by decide) (by rw [hy77]; decide)) ev78 ?_
                  refine xi_iconst (pc' := 24) (v := 1) kc_90_23 rfl rfl ?_
                  refine xcps2 (α := Int32) ((v78 : Int32) + 1) (fun v79 ev79 => ?_)
                  have rv79 := xc_rng v79
                  refine xi_iadd (pc' := 25) (v := v79) kc_90_24 rfl ev79 ?_
                  refine xcps4 (xj_set (v := v79) hy77 ry77 2 (by first | omega | decide) (by first | omega | decide)) (fun y80 s80 hy80 ry80 => ?_)
                  refine xi_iastore (pc' := 26) (x' := y80) kc_90_25 rfl A77 rfl (xi_in (by decide) (by rw [hy77]; decide)) s80 (fun hh80 eh80 => ?_)
                  have K81 := xk_pa K (xk_wa rfl) xD_94 hy80 ry80 eh80
                  refine xi_iload_n (pc' := 27) (x := (-2)) kc_90_26 rfl rfl ?_
                  refine xi_ireturn kc_90_27 mr_90 rfl ?_
                  show xw J ov (d + 1) 167 (52, [(0, .ref 0), (1, .int x1), (2, .int x2), (3, .int x3), (4, .int x4)], [.int (-2)], hh80) _
                  refine xi_ireturn kc_167_52 mr_167 rfl ?_
                  have zcm2 : ((-2) : Int32).toInt = (-2) := by decide
                  exact kk (-2) hh80 (by omega) K81
            · refine xi_cmf (pc' := 29) kc_167_26 rfl (xc_lt_f (X := x3.toInt) (Y := 6) rfl (by decide) (by omega)) ?_
              refine xi_aload_n (pc' := 30) (x := 0) kc_167_29 rfl rfl ?_
              refine xi_iconst (pc' := 31) (v := (-1)) kc_167_30 rfl rfl ?_
              refine xp_0 K.1 (fun u82 u83 bu82 bu83 A84 => ?_)
              refine xi_virtual (mj := 90) (as := [.int (-1)]) (st1 := []) (lv0 := [(0, .ref 0), (1, .int (-1))]) kc_167_31 rfl rfl rfl rfl rfl A84 (Nat.le_of_ble_eq_true rfl) (hJ _ _ _ _ (by decide)) (xm_le ml_90 rfl) rfl ?_
              refine xi_iload_n (pc' := 1) (x := (-1)) kc_90_0 rfl rfl ?_
              refine xi_ineg (pc' := 2) (v := 1) kc_90_1 rfl rfl ?_
              refine xi_istore_n (pc' := 3) (lv' := [(2, .int 1), (0, .ref 0), (1, .int (-1))]) kc_90_2 rfl rfl (xm_lt ml_90 rfl) ?_
              refine xi_iload_n (pc' := 4) (x := 1) kc_90_3 rfl rfl ?_
              refine xi_iff (pc' := 7) kc_90_4 rfl rfl ?_
              refine xi_iload_n (pc' := 8) (x := 1) kc_90_7 rfl rfl ?_
              refine xi_aload_n (pc' := 9) (x := 0) kc_90_8 rfl rfl ?_
              refine xi_getfield (pc' := 12) (v := .ref 94) kc_90_9 rfl rfl rfl A84 rfl ?_
              refine xcps4 (xk_arr K.1 xD_94) (fun y85 A85 hy85 ry85 => ?_)
              refine xi_arraylength (pc' := 13) (n := 7) (v := 7) kc_90_12 rfl (xl_lenI (by decide) (by decide) A85 hy85) rfl ?_
              refine xi_cmf (pc' := 16) kc_90_13 rfl rfl ?_
              refine xi_aload_n (pc' := 17) (x := 0) kc_90_16 rfl rfl ?_
              refine xi_getfield (pc' := 20) (v := .ref 94) kc_90_17 rfl rfl rfl A84 rfl ?_
              refine xi_iload_n (pc' := 21) (x := 1) kc_90_20 rfl rfl ?_
              refine xi_dup2 (pc' := 22) kc_90_21 rfl ⟨rfl, rfl⟩ ?_
              refine xcps4 (xj_get hy85 ry85 (i := 1) (by decide) (by decide)) (fun v86 ev86 bv86 dv86 => ?_)
              refine xi_iaload (pc' := 23) (v := v86) kc_90_22 rfl A85 (by decide) rfl (xi_in (by decide) (by rw [hy85]; decide)) ev86 ?_
              refine xi_iconst (pc' := 24) (v := 1) kc_90_23 rfl rfl ?_
              refine xcps2 (α := Int32) ((v86 : Int32) + 1) (fun v87 ev87 => ?_)
              have rv87 := xc_rng v87
              refine xi_iadd (pc' := 25) (v := v87) kc_90_24 rfl ev87 ?_
              refine xcps4 (xj_set (v := v87) hy85 ry85 1 (by first | omega | decide) (by first | omega | decide)) (fun y88 s88 hy88 ry88 => ?_)
              refine xi_iastore (pc' := 26) (x' := y88) kc_90_25 rfl A85 rfl (xi_in (by decide) (by rw [hy85]; decide)) s88 (fun hh88 eh88 => ?_)
              have K89 := xk_pa K (xk_wa rfl) xD_94 hy88 ry88 eh88
              refine xi_iload_n (pc' := 27) (x := (-1)) kc_90_26 rfl rfl ?_
              refine xi_ireturn kc_90_27 mr_90 rfl ?_
              show xw J ov (d + 1) 167 (34, [(0, .ref 0), (1, .int x1), (2, .int x2), (3, .int x3), (4, .int x4)], [.int (-1)], hh88) _
              refine xi_ireturn kc_167_34 mr_167 rfl ?_
              have zcm1 : ((-1) : Int32).toInt = (-1) := by decide
              exact kk (-1) hh88 (by omega) K89
set_option maxHeartbeats 4000000 in
theorem lp_170_0 {J : xe_J} {ov : List (List Int32)} (hJ : ∀ d mj as h, mj ≠ xe_loff → J d mj as h = none) (hov1 : ov[1]? = some [10, 0, 0, 0, 0, 0]) (hov2 : ov[2]? = some [99, 30, 50, 50, 1, 99999]) {d : Nat} {Q : Option Value → xe_H → Prop} {hb : xe_H} (kk : (∀ (r : Int32) (h' : xe_H), xk [(0, 9), (115, 1), (83, 0), (29, 0), (31, 0), (33, 0), (35, 0), (37, 0), (39, 0), (41, 0), (43, 0), (45, 0), (47, 0), (49, 0), (51, 0), (125, 0), (66, 8), (115, 18), (71, 0), (132, 0)] hb h' → Q (some (.int r)) h')) : ∀ m : Nat, (∀ (x1 : Int32) (x2 : Int32) (h : xe_H), (0 ≤ x2.toInt ∧ x2.toInt ≤ 24) → xk [(0, 9), (115, 1), (83, 0), (29, 0), (31, 0), (33, 0), (35, 0), (37, 0), (39, 0), (41, 0), (43, 0), (45, 0), (47, 0), (49, 0), (51, 0), (125, 0), (66, 8), (115, 18), (71, 0), (132, 0)] hb h → (-25) * x2.toInt + 624 < (m : Int) → xw J ov (d + 3) 170 (4, [(0, .ref 80), (1, .int x1), (2, .int x2)], [], h) Q) ∧ (∀ (x1 : Int32) (x2 : Int32) (x3 : Int32) (h : xe_H), (0 ≤ x2.toInt ∧ x2.toInt ≤ 23) → (0 ≤ x3.toInt ∧ x3.toInt ≤ 23) → xk [(0, 9), (115, 1), (83, 0), (29, 0), (31, 0), (33, 0), (35, 0), (37, 0), (39, 0), (41, 0), (43, 0), (45, 0), (47, 0), (49, 0), (51, 0), (125, 0), (66, 8), (115, 18), (71, 0), (132, 0)] hb h → (-25) * x2.toInt + (-1) * x3.toInt + 623 < (m : Int) → xw J ov (d + 3) 170 (12, [(0, .ref 80), (1, .int x1), (2, .int x2), (3, .int x3)], [], h) Q) := by
  intro m
  induction m with
  | zero =>
    refine ⟨?_, ?_⟩
    · intro x1 x2 h b2 K hm; have rx1 := xc_rng x1; exfalso; omega
    · intro x1 x2 x3 h b2 b3 K hm; have rx1 := xc_rng x1; exfalso; omega
  | succ m ih =>
    obtain ⟨i0, i1⟩ := ih
    refine ⟨?_, ?_⟩
    · intro x1 x2 h b2 K hm
      have rx1 := xc_rng x1
      refine xi_iload_n (pc' := 5) (x := x2) kc_170_4 rfl rfl ?_
      refine xi_bipush (pc' := 7) (v := 24) kc_170_5 rfl rfl ?_
      by_cases c1 : 24 ≤ x2.toInt
      · refine xi_cmt (pc' := 61) kc_170_7 rfl (xc_ge_t (X := x2.toInt) (Y := 24) rfl (by decide) (by omega)) ?_
        refine xi_iload_n (pc' := 62) (x := x1) kc_170_61 rfl rfl ?_
        refine xi_ireturn kc_170_62 mr_170 rfl ?_
        exact kk x1 h K
      · refine xi_cmf (pc' := 10) kc_170_7 rfl (xc_ge_f (X := x2.toInt) (Y := 24) rfl (by decide) (by omega)) ?_
        refine xi_iconst (pc' := 11) (v := 0) kc_170_10 rfl rfl ?_
        refine xi_istore_n (pc' := 12) (lv' := [(3, .int 0), (0, .ref 80), (1, .int x1), (2, .int x2)]) kc_170_11 rfl rfl (xm_lt ml_170 rfl) ?_
        have zc0 : (0 : Int32).toInt = 0 := by decide
        refine xw_lv (b := [(0, .ref 80), (1, .int x1), (2, .int x2), (3, .int 0)]) (lvS_cons (lvS_cons (lvS_cons (lvS_cons (lvS_nil (show ([3, 0, 1, 2] : List Nat).Nodup by decide)) rfl) rfl) rfl) rfl) ?_
        exact i1 x1 x2 0 h (by omega) (by omega) K (by omega)
    · intro x1 x2 x3 h b2 b3 K hm
      have rx1 := xc_rng x1
      refine xi_iload_n (pc' := 13) (x := x3) kc_170_12 rfl rfl ?_
      refine xi_iload_n (pc' := 14) (x := x2) kc_170_13 rfl rfl ?_
      by_cases c1 : x2.toInt ≤ x3.toInt
      · refine xi_cmt (pc' := 55) kc_170_14 rfl (xc_ge_t (X := x3.toInt) (Y := x2.toInt) rfl rfl (by omega)) ?_
        refine xcps2 (α := Int32) (x2 + 1) (fun v2 ev2 => ?_)
        have zv2 : v2.toInt = (x2.toInt + 1) := by rw [← ev2]; exact (xz_add (X := x2.toInt) (Y := 1) rfl (by decide) (by omega) (by omega)).trans (by omega)
        refine xi_iinc (pc' := 58) (x := x2) (v := v2) (lv' := [(2, .int v2), (0, .ref 80), (1, .int x1), (3, .int x3)]) kc_170_55 rfl rfl ev2 rfl (xm_lt ml_170 rfl) ?_
        refine xi_goto (pc' := 4) kc_170_58 rfl ?_
        refine xw_lv (b := [(0, .ref 80), (1, .int x1), (2, .int v2)]) (lvS_cons (lvS_cons (lvS_cons (lvS_nil (show ([2, 0, 1, 3] : List Nat).Nodup by decide)) rfl) rfl) rfl) ?_
        exact i0 x1 v2 h (by omega) K (by omega)
      · refine xi_cmf (pc' := 17) kc_170_14 rfl (xc_ge_f (X := x3.toInt) (Y := x2.toInt) rfl rfl (by omega)) ?_
        refine xi_aload_n (pc' := 18) (x := 80) kc_170_17 rfl rfl ?_
        have A3 := xq_80 K.1
        refine xi_getfield (pc' := 21) (v := .ref 83) kc_170_18 rfl rfl rfl A3 rfl ?_
        refine xi_iload_n (pc' := 22) (x := x2) kc_170_21 rfl rfl ?_
        refine xcps4 (xk_arr K.1 xD_83) (fun y4 A4 hy4 ry4 => ?_)
        refine xcps4 (xj_get hy4 ry4 (i := x2) (by omega) (by omega)) (fun v5 ev5 bv5 dv5 => ?_)
        refine xi_iaload (pc' := 23) (v := v5) kc_170_22 rfl A4 (by decide) rfl (xi_in (by omega) (by rw [hy4]; omega)) ev5 ?_
        refine xi_iconst (pc' := 24) (v := 1) kc_170_23 rfl rfl ?_
        by_cases c6 : v5.toInt = 1
        · refine xi_cmf (pc' := 27) kc_170_24 rfl (xc_ne_f (X := v5.toInt) (Y := 1) rfl (by decide) (by omega)) ?_
          refine xi_aload_n (pc' := 28) (x := 80) kc_170_27 rfl rfl ?_
          refine xi_getfield (pc' := 31) (v := .ref 83) kc_170_28 rfl rfl rfl A3 rfl ?_
          refine xi_iload_n (pc' := 32) (x := x3) kc_170_31 rfl rfl ?_
          refine xcps4 (xj_get hy4 ry4 (i := x3) (by omega) (by omega)) (fun v7 ev7 bv7 dv7 => ?_)
          refine xi_iaload (pc' := 33) (v := v7) kc_170_32 rfl A4 (by decide) rfl (xi_in (by omega) (by rw [hy4]; omega)) ev7 ?_
          refine xi_iconst (pc' := 34) (v := 1) kc_170_33 rfl rfl ?_
          by_cases c8 : v7.toInt = 1
          · refine xi_cmf (pc' := 37) kc_170_34 rfl (xc_ne_f (X := v7.toInt) (Y := 1) rfl (by decide) (by omega)) ?_
            refine xi_aload_n (pc' := 38) (x := 80) kc_170_37 rfl rfl ?_
            refine xi_iload_n (pc' := 39) (x := x2) kc_170_38 rfl rfl ?_
            refine xi_iload_n (pc' := 40) (x := x3) kc_170_39 rfl rfl ?_
            refine xi_virtual (mj := 171) (as := [.int x2, .int x3]) (st1 := []) (lv0 := [(0, .ref 80), (1, .int x2), (2, .int x3)]) kc_170_40 rfl rfl rfl rfl rfl A3 (Nat.le_of_ble_eq_true rfl) (hJ _ _ _ _ (by decide)) (xm_le ml_171 rfl) rfl ?_
            refine xi_aload_n (pc' := 1) (x := 80) kc_171_0 rfl rfl ?_
            refine xi_getfield (pc' := 4) (v := .ref 81) kc_171_1 rfl rfl rfl A3 rfl ?_
            refine xi_iload_n (pc' := 5) (x := x2) kc_171_4 rfl rfl ?_
            refine xcps4 (xk_arr K.1 xD_81) (fun y9 A9 hy9 ry9 => ?_)
            refine xcps4 (xj_get hy9 ry9 (i := x2) (by omega) (by omega)) (fun v10 ev10 bv10 dv10 => ?_)
            refine xi_iaload (pc' := 6) (v := v10) kc_171_5 rfl A9 (by decide) rfl (xi_in (by omega) (by rw [hy9]; omega)) ev10 ?_
            refine xi_aload_n (pc' := 7) (x := 80) kc_171_6 rfl rfl ?_
            refine xi_getfield (pc' := 10) (v := .ref 81) kc_171_7 rfl rfl rfl A3 rfl ?_
            refine xi_iload_n (pc' := 11) (x := x3) kc_171_10 rfl rfl ?_
            refine xcps4 (xj_get hy9 ry9 (i := x3) (by omega) (by omega)) (fun v11 ev11 bv11 dv11 => ?_)
            refine xi_iaload (pc' := 12) (v := v11) kc_171_11 rfl A9 (by decide) rfl (xi_in (by omega) (by rw [hy9]; omega)) ev11 ?_
            refine xcps2 (α := Int32) (v10 - v11) (fun v12 ev12 => ?_)
            have zv12 : v12.toInt = (v10.toInt + (-1) * v11.toInt) := by rw [← ev12]; exact (xz_sub (X := v10.toInt) (Y := v11.toInt) rfl rfl (by omega) (by omega)).trans (by omega)
            refine xi_isub (pc' := 13) (v := v12) kc_171_12 rfl ev12 ?_
            refine xi_static (mj := 2) (as := [.int v12]) (st1 := []) (lv0 := [(0, .int v12)]) kc_171_13 rfl rfl (Nat.le_of_ble_eq_true rfl) rfl rfl (Nat.le_of_ble_eq_true rfl) (hJ _ _ _ _ (by decide)) (xm_le ml_2 rfl) rfl ?_
            refine mt_2_0 hJ hov1 hov2 (d := d) (x0 := v12) K.1 (by first | omega | decide) (fun r13 hh14 K15 => ?_)
            have br13 := xc_rng r13
            have K16 := xk_tr K K15 rfl
            have A17 := xk_eqa (q := 0) K15 rfl A4
            show xw J ov (d + 2) 171 (16, [(0, .ref 80), (1, .int x2), (2, .int x3)], [.int r13], hh14) _
            refine xi_istore_n (pc' := 17) (lv' := [(3, .int r13), (0, .ref 80), (1, .int x2), (2, .int x3)]) kc_171_16 rfl rfl (xm_lt ml_171 rfl) ?_
            refine xi_aload_n (pc' := 18) (x := 80) kc_171_17 rfl rfl ?_
            have A18 := xq_80 K16.1
            refine xi_getfield (pc' := 21) (v := .ref 82) kc_171_18 rfl rfl rfl A18 rfl ?_
            refine xi_iload_n (pc' := 22) (x := x2) kc_171_21 rfl rfl ?_
            refine xcps4 (xk_arr K16.1 xD_82) (fun y19 A19 hy19 ry19 => ?_)
            refine xcps4 (xj_get hy19 ry19 (i := x2) (by omega) (by omega)) (fun v20 ev20 bv20 dv20 => ?_)
            refine xi_iaload (pc' := 23) (v := v20) kc_171_22 rfl A19 (by decide) rfl (xi_in (by omega) (by rw [hy19]; omega)) ev20 ?_
            refine xi_aload_n (pc' := 24) (x := 80) kc_171_23 rfl rfl ?_
            refine xi_getfield (pc' := 27) (v := .ref 82) kc_171_24 rfl rfl rfl A18 rfl ?_
            refine xi_iload_n (pc' := 28) (x := x3) kc_171_27 rfl rfl ?_
            refine xcps4 (xj_get hy19 ry19 (i := x3) (by omega) (by omega)) (fun v21 ev21 bv21 dv21 => ?_)
            refine xi_iaload (pc' := 29) (v := v21) kc_171_28 rfl A19 (by decide) rfl (xi_in (by omega) (by rw [hy19]; omega)) ev21 ?_
            refine xcps2 (α := Int32) (v20 - v21) (fun v22 ev22 => ?_)
            have zv22 : v22.toInt = (v20.toInt + (-1) * v21.toInt) := by rw [← ev22]; exact (xz_sub (X := v20.toInt) (Y := v21.toInt) rfl rfl (by omega) (by omega)).trans (by omega)
            refine xi_isub (pc' := 30) (v := v22) kc_171_29 rfl ev22 ?_
            refine xi_static (mj := 2) (as := [.int v22]) (st1 := []) (lv0 := [(0, .int v22)]) kc_171_30 rfl rfl (Nat.le_of_ble_eq_true rfl) rfl rfl (Nat.le_of_ble_eq_true rfl) (hJ _ _ _ _ (by decide)) (xm_le ml_2 rfl) rfl ?_
            refine mt_2_0 hJ hov1 hov2 (d := d) (x0 := v22) K16.1 (by first | omega | decide) (fun r23 hh24 K25 => ?_)
            have br23 := xc_rng r23
            have K26 := xk_tr K16 K25 rfl
            have A27 := xk_eqa (q := 0) K25 rfl A17
            show xw J ov (d + 2) 171 (33, [(3, .int r13), (0, .ref 80), (1, .int x2), (2, .int x3)], [.int r23], hh24) _
            refine xi_istore (pc' := 35) (lv' := [(4, .int r23), (3, .int r13), (0, .ref 80), (1, .int x2), (2, .int x3)]) kc_171_33 rfl rfl (xm_lt ml_171 rfl) ?_
            refine xi_iload_n (pc' := 36) (x := r13) kc_171_35 rfl rfl ?_
            refine xi_iload (pc' := 38) (x := r23) kc_171_36 rfl rfl ?_
            refine xcps2 (α := Int32) ((r13 : Int32) + r23) (fun v28 ev28 => ?_)
            have rv28 := xc_rng v28
            refine xi_iadd (pc' := 39) (v := v28) kc_171_38 rfl ev28 ?_
            refine xi_iconst (pc' := 40) (v := 1) kc_171_39 rfl rfl ?_
            by_cases c29 : v28.toInt = 1
            · refine xi_cmf (pc' := 43) kc_171_40 rfl (xc_ne_f (X := v28.toInt) (Y := 1) rfl (by decide) (by omega)) ?_
              refine xi_iconst (pc' := 44) (v := 1) kc_171_43 rfl rfl ?_
              refine xi_goto (pc' := 48) kc_171_44 rfl ?_
              refine xi_ireturn kc_171_48 mr_171 rfl ?_
              show xw J ov (d + 3) 170 (43, [(0, .ref 80), (1, .int x1), (2, .int x2), (3, .int x3)], [.int 1], hh24) _
              refine xi_iff (pc' := 46) kc_170_43 rfl rfl ?_
              refine xcps2 (α := Int32) ((x1 : Int32) + 1) (fun v30 ev30 => ?_)
              have rv30 := xc_rng v30
              refine xi_iinc (pc' := 49) (x := x1) (v := v30) (lv' := [(1, .int v30), (0, .ref 80), (2, .int x2), (3, .int x3)]) kc_170_46 rfl rfl ev30 rfl (xm_lt ml_170 rfl) ?_
              refine xcps2 (α := Int32) (x3 + 1) (fun v31 ev31 => ?_)
              have zv31 : v31.toInt = (x3.toInt + 1) := by rw [← ev31]; exact (xz_add (X := x3.toInt) (Y := 1) rfl (by decide) (by omega) (by omega)).trans (by omega)
              refine xi_iinc (pc' := 52) (x := x3) (v := v31) (lv' := [(3, .int v31), (1, .int v30), (0, .ref 80), (2, .int x2)]) kc_170_49 rfl rfl ev31 rfl (xm_lt ml_170 rfl) ?_
              refine xi_goto (pc' := 12) kc_170_52 rfl ?_
              refine xw_lv (b := [(0, .ref 80), (1, .int v30), (2, .int x2), (3, .int v31)]) (lvS_cons (lvS_cons (lvS_cons (lvS_cons (lvS_nil (show ([3, 1, 0, 2] : List Nat).Nodup by decide)) rfl) rfl) rfl) rfl) ?_
              exact i1 v30 x2 v31 hh24 (by omega) (by omega) K26 (by omega)
            · refine xi_cmt (pc' := 47) kc_171_40 rfl (xc_ne_t (X := v28.toInt) (Y := 1) rfl (by decide) (by omega)) ?_
              refine xi_iconst (pc' := 48) (v := 0) kc_171_47 rfl rfl ?_
              refine xi_ireturn kc_171_48 mr_171 rfl ?_
              show xw J ov (d + 3) 170 (43, [(0, .ref 80), (1, .int x1), (2, .int x2), (3, .int x3)], [.int 0], hh24) _
              refine xi_ift (pc' := 49) kc_170_43 rfl rfl ?_
              refine xcps2 (α := Int32) (x3 + 1) (fun v32 ev32 => ?_)
              have zv32 : v32.toInt = (x3.toInt + 1) := by rw [← ev32]; exact (xz_add (X := x3.toInt) (Y := 1) rfl (by decide) (by omega) (by omega)).trans (by omega)
              refine xi_iinc (pc' := 52) (x := x3) (v := v32) (lv' := [(3, .int v32), (0, .ref 80), (1, .int x1), (2, .int x2)]) kc_170_49 rfl rfl ev32 rfl (xm_lt ml_170 rfl) ?_
              refine xi_goto (pc' := 12) kc_170_52 rfl ?_
              refine xw_lv (b := [(0, .ref 80), (1, .int x1), (2, .int x2), (3, .int v32)]) (lvS_cons (lvS_cons (lvS_cons (lvS_cons (lvS_nil (show ([3, 0, 1, 2] : List Nat).Nodup by decide)) rfl) rfl) rfl) rfl) ?_
              exact i1 x1 x2 v32 hh24 (by omega) (by omega) K26 (by omega)
          · refine xi_cmt (pc' := 49) kc_170_34 rfl (xc_ne_t (X := v7.toInt) (Y := 1) rfl (by decide) (by omega)) ?_
            refine xcps2 (α := Int32) (x3 + 1) (fun v33 ev33 => ?_)
            have zv33 : v33.toInt = (x3.toInt + 1) := by rw [← ev33]; exact (xz_add (X := x3.toInt) (Y := 1) rfl (by decide) (by omega) (by omega)).trans (by omega)
            refine xi_iinc (pc' := 52) (x := x3) (v := v33) (lv' := [(3, .int v33), (0, .ref 80), (1, .int x1), (2, .int x2)]) kc_170_49 rfl rfl ev33 rfl (xm_lt ml_170 rfl) ?_
            refine xi_goto (pc' := 12) kc_170_52 rfl ?_
            refine xw_lv (b := [(0, .ref 80), (1, .int x1), (2, .int x2), (3, .int v33)]) (lvS_cons (lvS_cons (lvS_cons (lvS_cons (lvS_nil (show ([3, 0, 1, 2] : List Nat).Nodup by decide)) rfl) rfl) rfl) rfl) ?_
            exact i1 x1 x2 v33 h (by omega) (by omega) K (by omega)
        · refine xi_cmt (pc' := 49) kc_170_24 rfl (xc_ne_t (X := v5.toInt) (Y := 1) rfl (by decide) (by omega)) ?_
          refine xcps2 (α := Int32) (x3 + 1) (fun v34 ev34 => ?_)
          have zv34 : v34.toInt = (x3.toInt + 1) := by rw [← ev34]; exact (xz_add (X := x3.toInt) (Y := 1) rfl (by decide) (by omega) (by omega)).trans (by omega)
          refine xi_iinc (pc' := 52) (x := x3) (v := v34) (lv' := [(3, .int v34), (0, .ref 80), (1, .int x1), (2, .int x2)]) kc_170_49 rfl rfl ev34 rfl (xm_lt ml_170 rfl) ?_
          refine xi_goto (pc' := 12) kc_170_52 rfl ?_
          refine xw_lv (b := [(0, .ref 80), (1, .int x1), (2, .int x2), (3, .int v34)]) (lvS_cons (lvS_cons (lvS_cons (lvS_cons (lvS_nil (show ([3, 0, 1, 2] : List Nat).Nodup by decide)) rfl) rfl) rfl) rfl) ?_
          exact i1 x1 x2 v34 h (by omega) (by omega) K (by omega)
set_option maxHeartbeats 4000000 in
theorem mt_170_0 {J : xe_J} {ov : List (List Int32)} (hJ : ∀ d mj as h, mj ≠ xe_loff → J d mj as h = none) (hov1 : ov[1]? = some [10, 0, 0, 0, 0, 0]) (hov2 : ov[2]? = some [99, 30, 50, 50, 1, 99999]) {d : Nat} {Q : Option Value → xe_H → Prop} {h : xe_H} (T : xt h) (kk : (∀ (r : Int32) (h' : xe_H), xk [(0, 9), (115, 1), (83, 0), (29, 0), (31, 0), (33, 0), (35, 0), (37, 0), (39, 0), (41, 0), (43, 0), (45, 0), (47, 0), (49, 0), (51, 0), (125, 0), (66, 8), (115, 18), (71, 0), (132, 0)] h h' → Q (some (.int r)) h')) : xw J ov (d + 3) 170 (0, [(0, .ref 80)], [], h) Q := by
  have K : xk [(0, 9), (115, 1), (83, 0), (29, 0), (31, 0), (33, 0), (35, 0), (37, 0), (39, 0), (41, 0), (43, 0), (45, 0), (47, 0), (49, 0), (51, 0), (125, 0), (66, 8), (115, 18), (71, 0), (132, 0)] h h := xk_re T
  refine xi_iconst (pc' := 1) (v := 0) kc_170_0 rfl rfl ?_
  refine xi_istore_n (pc' := 2) (lv' := [(1, .int 0), (0, .ref 80)]) kc_170_1 rfl rfl (xm_lt ml_170 rfl) ?_
  refine xi_iconst (pc' := 3) (v := 0) kc_170_2 rfl rfl ?_
  refine xi_istore_n (pc' := 4) (lv' := [(2, .int 0), (1, .int 0), (0, .ref 80)]) kc_170_3 rfl rfl (xm_lt ml_170 rfl) ?_
  have zc0 : (0 : Int32).toInt = 0 := by decide
  refine xw_lv (b := [(0, .ref 80), (1, .int 0), (2, .int 0)]) (lvS_cons (lvS_cons (lvS_cons (lvS_nil (show ([2, 1, 0] : List Nat).Nodup by decide)) rfl) rfl) rfl) ?_
  exact (lp_170_0 hJ hov1 hov2 (d := d) (hb := h) (fun r9 h9 K9 => kk r9 h9 (xk_tr K K9 rfl)) 625).1 0 0 h (by omega) (xk_re K.1) (by omega)
set_option maxHeartbeats 4000000 in
theorem mt_169_0 {J : xe_J} {ov : List (List Int32)} (hJ : ∀ d mj as h, mj ≠ xe_loff → J d mj as h = none) (hov1 : ov[1]? = some [10, 0, 0, 0, 0, 0]) (hov2 : ov[2]? = some [99, 30, 50, 50, 1, 99999]) {d : Nat} {Q : Option Value → xe_H → Prop} {h : xe_H} (T : xt h) (kk : (∀ (r : Int32) (h' : xe_H), xk [(0, 9), (115, 1), (83, 0), (29, 0), (31, 0), (33, 0), (35, 0), (37, 0), (39, 0), (41, 0), (43, 0), (45, 0), (47, 0), (49, 0), (51, 0), (125, 0), (66, 8), (115, 18), (71, 0), (132, 0)] h h' → Q (some (.int r)) h')) : xw J ov (d + 4) 169 (0, [(0, .ref 0)], [], h) Q := by
  have K : xk [(0, 9), (115, 1), (83, 0), (29, 0), (31, 0), (33, 0), (35, 0), (37, 0), (39, 0), (41, 0), (43, 0), (45, 0), (47, 0), (49, 0), (51, 0), (125, 0), (66, 8), (115, 18), (71, 0), (132, 0)] h h := xk_re T
  refine xi_aload_n (pc' := 1) (x := 0) kc_169_0 rfl rfl ?_
  refine xp_0 K.1 (fun u1 u2 bu1 bu2 A3 => ?_)
  refine xi_getfield (pc' := 4) (v := .ref 80) kc_169_1 rfl rfl rfl A3 rfl ?_
  have A4 := xq_80 K.1
  refine xi_virtual (mj := 170) (as := []) (st1 := []) (lv0 := [(0, .ref 80)]) kc_169_4 rfl rfl rfl rfl rfl A4 (Nat.le_of_ble_eq_true rfl) (hJ _ _ _ _ (by decide)) (xm_le ml_170 rfl) rfl ?_
  refine mt_170_0 hJ hov1 hov2 (d := d)  K.1 (fun r5 hh6 K7 => ?_)
  have br5 := xc_rng r5
  have K8 := xk_tr K K7 rfl
  refine xp_0 K8.1 (fun u9 u10 bu9 bu10 A11 => ?_)
  have e12 : u2 = u10 := xk_eqi (q := 9) K7 rfl A3 A11 rfl rfl
  subst e12
  show xw J ov (d + 4) 169 (7, [(0, .ref 0)], [.int r5], hh6) _
  refine xi_ireturn kc_169_7 mr_169 rfl ?_
  exact kk r5 hh6 K8
set_option maxHeartbeats 4000000 in
theorem lp_173_0 {J : xe_J} {ov : List (List Int32)} (hJ : ∀ d mj as h, mj ≠ xe_loff → J d mj as h = none) (hov1 : ov[1]? = some [10, 0, 0, 0, 0, 0]) (hov2 : ov[2]? = some [99, 30, 50, 50, 1, 99999]) {d : Nat} {Q : Option Value → xe_H → Prop} {hb : xe_H} (kk : (∀ (r : Int32) (h' : xe_H), xk [(0, 9), (115, 1), (83, 0), (29, 0), (31, 0), (33, 0), (35, 0), (37, 0), (39, 0), (41, 0), (43, 0), (45, 0), (47, 0), (49, 0), (51, 0), (125, 0), (66, 8), (115, 18), (71, 0), (132, 0)] hb h' → Q (some (.int r)) h')) : ∀ m : Nat, (∀ (x1 : Int32) (x2 : Int32) (h : xe_H), (0 ≤ x2.toInt ∧ x2.toInt ≤ 24) → xk [(0, 9), (115, 1), (83, 0), (29, 0), (31, 0), (33, 0), (35, 0), (37, 0), (39, 0), (41, 0), (43, 0), (45, 0), (47, 0), (49, 0), (51, 0), (125, 0), (66, 8), (115, 18), (71, 0), (132, 0)] hb h → (-1) * x2.toInt + 24 < (m : Int) → xw J ov (d + 1) 173 (4, [(0, .ref 80), (1, .int x1), (2, .int x2)], [], h) Q) := by
  intro m
  induction m with
  | zero =>
    intro x1 x2 h b2 K hm; have rx1 := xc_rng x1; exfalso; omega
  | succ m ih =>
    have i0 := ih
    intro x1 x2 h b2 K hm
    have rx1 := xc_rng x1
    refine xi_iload_n (pc' := 5) (x := x2) kc_173_4 rfl rfl ?_
    refine xi_bipush (pc' := 7) (v := 24) kc_173_5 rfl rfl ?_
    by_cases c1 : 24 ≤ x2.toInt
    · refine xi_cmt (pc' := 34) kc_173_7 rfl (xc_ge_t (X := x2.toInt) (Y := 24) rfl (by decide) (by omega)) ?_
      refine xi_iload_n (pc' := 35) (x := x1) kc_173_34 rfl rfl ?_
      refine xi_ireturn kc_173_35 mr_173 rfl ?_
      exact kk x1 h K
    · refine xi_cmf (pc' := 10) kc_173_7 rfl (xc_ge_f (X := x2.toInt) (Y := 24) rfl (by decide) (by omega)) ?_
      refine xi_iload_n (pc' := 11) (x := x1) kc_173_10 rfl rfl ?_
      refine xi_aload_n (pc' := 12) (x := 80) kc_173_11 rfl rfl ?_
      have A2 := xq_80 K.1
      refine xi_getfield (pc' := 15) (v := .ref 83) kc_173_12 rfl rfl rfl A2 rfl ?_
      refine xi_iload_n (pc' := 16) (x := x2) kc_173_15 rfl rfl ?_
      refine xcps4 (xk_arr K.1 xD_83) (fun y3 A3 hy3 ry3 => ?_)
      refine xcps4 (xj_get hy3 ry3 (i := x2) (by omega) (by omega)) (fun v4 ev4 bv4 dv4 => ?_)
      refine xi_iaload (pc' := 17) (v := v4) kc_173_16 rfl A3 (by decide) rfl (xi_in (by omega) (by rw [hy3]; omega)) ev4 ?_
      refine xi_iconst (pc' := 18) (v := 2) kc_173_17 rfl rfl ?_
      by_cases c5 : v4.toInt = 2
      · refine xi_cmf (pc' := 21) kc_173_18 rfl (xc_ne_f (X := v4.toInt) (Y := 2) rfl (by decide) (by omega)) ?_
        refine xi_iconst (pc' := 22) (v := 0) kc_173_21 rfl rfl ?_
        refine xi_goto (pc' := 26) kc_173_22 rfl ?_
        refine xcps2 (α := Int32) (x1 + 0) (fun v6 ev6 => ?_)
        have zv6 : v6.toInt = x1.toInt := by rw [← ev6]; exact (xz_add (X := x1.toInt) (Y := 0) rfl (by decide) (by omega) (by omega)).trans (by omega)
        refine xi_iadd (pc' := 27) (v := v6) kc_173_26 rfl ev6 ?_
        refine xi_istore_n (pc' := 28) (lv' := [(1, .int v6), (0, .ref 80), (2, .int x2)]) kc_173_27 rfl rfl (xm_lt ml_173 rfl) ?_
        refine xcps2 (α := Int32) (x2 + 1) (fun v7 ev7 => ?_)
        have zv7 : v7.toInt = (x2.toInt + 1) := by rw [← ev7]; exact (xz_add (X := x2.toInt) (Y := 1) rfl (by decide) (by omega) (by omega)).trans (by omega)
        refine xi_iinc (pc' := 31) (x := x2) (v := v7) (lv' := [(2, .int v7), (1, .int v6), (0, .ref 80)]) kc_173_28 rfl rfl ev7 rfl (xm_lt ml_173 rfl) ?_
        refine xi_goto (pc' := 4) kc_173_31 rfl ?_
        refine xw_lv (b := [(0, .ref 80), (1, .int v6), (2, .int v7)]) (lvS_cons (lvS_cons (lvS_cons (lvS_nil (show ([2, 1, 0] : List Nat).Nodup by decide)) rfl) rfl) rfl) ?_
        exact i0 v6 v7 h (by omega) K (by omega)
      · refine xi_cmt (pc' := 25) kc_173_18 rfl (xc_ne_t (X := v4.toInt) (Y := 2) rfl (by decide) (by omega)) ?_
        refine xi_iconst (pc' := 26) (v := 1) kc_173_25 rfl rfl ?_
        refine xcps2 (α := Int32) ((x1 : Int32) + 1) (fun v8 ev8 => ?_)
        have rv8 := xc_rng v8
        refine xi_iadd (pc' := 27) (v := v8) kc_173_26 rfl ev8 ?_
        refine xi_istore_n (pc' := 28) (lv' := [(1, .int v8), (0, .ref 80), (2, .int x2)]) kc_173_27 rfl rfl (xm_lt ml_173 rfl) ?_
        refine xcps2 (α := Int32) (x2 + 1) (fun v9 ev9 => ?_)
        have zv9 : v9.toInt = (x2.toInt + 1) := by rw [← ev9]; exact (xz_add (X := x2.toInt) (Y := 1) rfl (by decide) (by omega) (by omega)).trans (by omega)
        refine xi_iinc (pc' := 31) (x := x2) (v := v9) (lv' := [(2, .int v9), (1, .int v8), (0, .ref 80)]) kc_173_28 rfl rfl ev9 rfl (xm_lt ml_173 rfl) ?_
        refine xi_goto (pc' := 4) kc_173_31 rfl ?_
        refine xw_lv (b := [(0, .ref 80), (1, .int v8), (2, .int v9)]) (lvS_cons (lvS_cons (lvS_cons (lvS_nil (show ([2, 1, 0] : List Nat).Nodup by decide)) rfl) rfl) rfl) ?_
        exact i0 v8 v9 h (by omega) K (by omega)
set_option maxHeartbeats 4000000 in
theorem mt_173_0 {J : xe_J} {ov : List (List Int32)} (hJ : ∀ d mj as h, mj ≠ xe_loff → J d mj as h = none) (hov1 : ov[1]? = some [10, 0, 0, 0, 0, 0]) (hov2 : ov[2]? = some [99, 30, 50, 50, 1, 99999]) {d : Nat} {Q : Option Value → xe_H → Prop} {h : xe_H} (T : xt h) (kk : (∀ (r : Int32) (h' : xe_H), xk [(0, 9), (115, 1), (83, 0), (29, 0), (31, 0), (33, 0), (35, 0), (37, 0), (39, 0), (41, 0), (43, 0), (45, 0), (47, 0), (49, 0), (51, 0), (125, 0), (66, 8), (115, 18), (71, 0), (132, 0)] h h' → Q (some (.int r)) h')) : xw J ov (d + 1) 173 (0, [(0, .ref 80)], [], h) Q := by
  have K : xk [(0, 9), (115, 1), (83, 0), (29, 0), (31, 0), (33, 0), (35, 0), (37, 0), (39, 0), (41, 0), (43, 0), (45, 0), (47, 0), (49, 0), (51, 0), (125, 0), (66, 8), (115, 18), (71, 0), (132, 0)] h h := xk_re T
  refine xi_iconst (pc' := 1) (v := 0) kc_173_0 rfl rfl ?_
  refine xi_istore_n (pc' := 2) (lv' := [(1, .int 0), (0, .ref 80)]) kc_173_1 rfl rfl (xm_lt ml_173 rfl) ?_
  refine xi_iconst (pc' := 3) (v := 0) kc_173_2 rfl rfl ?_
  refine xi_istore_n (pc' := 4) (lv' := [(2, .int 0), (1, .int 0), (0, .ref 80)]) kc_173_3 rfl rfl (xm_lt ml_173 rfl) ?_
  have zc0 : (0 : Int32).toInt = 0 := by decide
  refine xw_lv (b := [(0, .ref 80), (1, .int 0), (2, .int 0)]) (lvS_cons (lvS_cons (lvS_cons (lvS_nil (show ([2, 1, 0] : List Nat).Nodup by decide)) rfl) rfl) rfl) ?_
  exact (lp_173_0 hJ hov1 hov2 (d := d) (hb := h) (fun r9 h9 K9 => kk r9 h9 (xk_tr K K9 rfl)) 25) 0 0 h (by omega) (xk_re K.1) (by omega)
set_option maxHeartbeats 4000000 in
theorem lp_175_0 {J : xe_J} {ov : List (List Int32)} (hJ : ∀ d mj as h, mj ≠ xe_loff → J d mj as h = none) (hov1 : ov[1]? = some [10, 0, 0, 0, 0, 0]) (hov2 : ov[2]? = some [99, 30, 50, 50, 1, 99999]) {d : Nat} {Q : Option Value → xe_H → Prop} {hb : xe_H} (kk : (∀ (r : Int32) (h' : xe_H), xk [(0, 9), (115, 1), (83, 0), (29, 0), (31, 0), (33, 0), (35, 0), (37, 0), (39, 0), (41, 0), (43, 0), (45, 0), (47, 0), (49, 0), (51, 0), (125, 0), (66, 8), (115, 18), (71, 0), (132, 0)] hb h' → Q (some (.int r)) h')) : ∀ m : Nat, (∀ (x1 : Int32) (x2 : Int32) (x3 : Int32) (x4 : Int32) (h : xe_H), (0 ≤ x1.toInt ∧ x1.toInt ≤ 23) → (0 ≤ x4.toInt ∧ x4.toInt ≤ 23) → xk [(0, 9), (115, 1), (83, 0), (29, 0), (31, 0), (33, 0), (35, 0), (37, 0), (39, 0), (41, 0), (43, 0), (45, 0), (47, 0), (49, 0), (51, 0), (125, 0), (66, 8), (115, 18), (71, 0), (132, 0)] hb h → (-1) * x4.toInt + 23 < (m : Int) → xw J ov (d + 3) 175 (7, [(0, .ref 80), (1, .int x1), (2, .int x2), (3, .int x3), (4, .int x4)], [], h) Q) := by
  intro m
  induction m with
  | zero =>
    intro x1 x2 x3 x4 h b1 b4 K hm; have rx2 := xc_rng x2; have rx3 := xc_rng x3; exfalso; omega
  | succ m ih =>
    have i0 := ih
    intro x1 x2 x3 x4 h b1 b4 K hm
    have rx2 := xc_rng x2
    have rx3 := xc_rng x3
    refine xi_iload (pc' := 9) (x := x4) kc_175_7 rfl rfl ?_
    refine xi_iload_n (pc' := 10) (x := x1) kc_175_9 rfl rfl ?_
    by_cases c1 : x1.toInt ≤ x4.toInt
    · refine xi_cmt (pc' := 56) kc_175_10 rfl (xc_ge_t (X := x4.toInt) (Y := x1.toInt) rfl rfl (by omega)) ?_
      refine xi_iload_n (pc' := 57) (x := x2) kc_175_56 rfl rfl ?_
      refine xi_ireturn kc_175_57 mr_175 rfl ?_
      exact kk x2 h K
    · refine xi_cmf (pc' := 13) kc_175_10 rfl (xc_ge_f (X := x4.toInt) (Y := x1.toInt) rfl rfl (by omega)) ?_
      refine xi_iload (pc' := 15) (x := x4) kc_175_13 rfl rfl ?_
      refine xi_bipush (pc' := 17) (v := 24) kc_175_15 rfl rfl ?_
      refine xi_cmf (pc' := 20) kc_175_17 rfl (xc_ge_f (X := x4.toInt) (Y := 24) rfl (by decide) (by omega)) ?_
      refine xi_aload_n (pc' := 21) (x := 80) kc_175_20 rfl rfl ?_
      have A2 := xq_80 K.1
      refine xi_getfield (pc' := 24) (v := .ref 83) kc_175_21 rfl rfl rfl A2 rfl ?_
      refine xi_iload (pc' := 26) (x := x4) kc_175_24 rfl rfl ?_
      refine xcps4 (xk_arr K.1 xD_83) (fun y3 A3 hy3 ry3 => ?_)
      refine xcps4 (xj_get hy3 ry3 (i := x4) (by omega) (by omega)) (fun v4 ev4 bv4 dv4 => ?_)
      refine xi_iaload (pc' := 27) (v := v4) kc_175_26 rfl A3 (by decide) rfl (xi_in (by omega) (by rw [hy3]; omega)) ev4 ?_
      refine xi_iconst (pc' := 28) (v := 2) kc_175_27 rfl rfl ?_
      by_cases c5 : v4.toInt = 2
      · refine xi_cmt (pc' := 50) kc_175_28 rfl (xc_eq_t (X := v4.toInt) (Y := 2) rfl (by decide) (by omega)) ?_
        refine xcps2 (α := Int32) (x4 + 1) (fun v6 ev6 => ?_)
        have zv6 : v6.toInt = (x4.toInt + 1) := by rw [← ev6]; exact (xz_add (X := x4.toInt) (Y := 1) rfl (by decide) (by omega) (by omega)).trans (by omega)
        refine xi_iinc (pc' := 53) (x := x4) (v := v6) (lv' := [(4, .int v6), (0, .ref 80), (1, .int x1), (2, .int x2), (3, .int x3)]) kc_175_50 rfl rfl ev6 rfl (xm_lt ml_175 rfl) ?_
        refine xi_goto (pc' := 7) kc_175_53 rfl ?_
        refine xw_lv (b := [(0, .ref 80), (1, .int x1), (2, .int x2), (3, .int x3), (4, .int v6)]) (lvS_cons (lvS_cons (lvS_cons (lvS_cons (lvS_cons (lvS_nil (show ([4, 0, 1, 2, 3] : List Nat).Nodup by decide)) rfl) rfl) rfl) rfl) rfl) ?_
        exact i0 x1 x2 x3 v6 h (by omega) (by omega) K (by omega)
      · refine xi_cmf (pc' := 31) kc_175_28 rfl (xc_eq_f (X := v4.toInt) (Y := 2) rfl (by decide) (by omega)) ?_
        refine xi_aload_n (pc' := 32) (x := 80) kc_175_31 rfl rfl ?_
        refine xi_iload (pc' := 34) (x := x4) kc_175_32 rfl rfl ?_
        refine xi_iload_n (pc' := 35) (x := x1) kc_175_34 rfl rfl ?_
        refine xi_virtual (mj := 171) (as := [.int x4, .int x1]) (st1 := []) (lv0 := [(0, .ref 80), (1, .int x4), (2, .int x1)]) kc_175_35 rfl rfl rfl rfl rfl A2 (Nat.le_of_ble_eq_true rfl) (hJ _ _ _ _ (by decide)) (xm_le ml_171 rfl) rfl ?_
        refine xi_aload_n (pc' := 1) (x := 80) kc_171_0 rfl rfl ?_
        refine xi_getfield (pc' := 4) (v := .ref 81) kc_171_1 rfl rfl rfl A2 rfl ?_
        refine xi_iload_n (pc' := 5) (x := x4) kc_171_4 rfl rfl ?_
        refine xcps4 (xk_arr K.1 xD_81) (fun y7 A7 hy7 ry7 => ?_)
        refine xcps4 (xj_get hy7 ry7 (i := x4) (by omega) (by omega)) (fun v8 ev8 bv8 dv8 => ?_)
        refine xi_iaload (pc' := 6) (v := v8) kc_171_5 rfl A7 (by decide) rfl (xi_in (by omega) (by rw [hy7]; omega)) ev8 ?_
        refine xi_aload_n (pc' := 7) (x := 80) kc_171_6 rfl rfl ?_
        refine xi_getfield (pc' := 10) (v := .ref 81) kc_171_7 rfl rfl rfl A2 rfl ?_
        refine xi_iload_n (pc' := 11) (x := x1) kc_171_10 rfl rfl ?_
        refine xcps4 (xj_get hy7 ry7 (i := x1) (by omega) (by omega)) (fun v9 ev9 bv9 dv9 => ?_)
        refine xi_iaload (pc' := 12) (v := v9) kc_171_11 rfl A7 (by decide) rfl (xi_in (by omega) (by rw [hy7]; omega)) ev9 ?_
        refine xcps2 (α := Int32) (v8 - v9) (fun v10 ev10 => ?_)
        have zv10 : v10.toInt = (v8.toInt + (-1) * v9.toInt) := by rw [← ev10]; exact (xz_sub (X := v8.toInt) (Y := v9.toInt) rfl rfl (by omega) (by omega)).trans (by omega)
        refine xi_isub (pc' := 13) (v := v10) kc_171_12 rfl ev10 ?_
        refine xi_static (mj := 2) (as := [.int v10]) (st1 := []) (lv0 := [(0, .int v10)]) kc_171_13 rfl rfl (Nat.le_of_ble_eq_true rfl) rfl rfl (Nat.le_of_ble_eq_true rfl) (hJ _ _ _ _ (by decide)) (xm_le ml_2 rfl) rfl ?_
        refine mt_2_0 hJ hov1 hov2 (d := d) (x0 := v10) K.1 (by first | omega | decide) (fun r11 hh12 K13 => ?_)
        have br11 := xc_rng r11
        have K14 := xk_tr K K13 rfl
        have A15 := xk_eqa (q := 0) K13 rfl A3
        show xw J ov (d + 2) 171 (16, [(0, .ref 80), (1, .int x4), (2, .int x1)], [.int r11], hh12) _
        refine xi_istore_n (pc' := 17) (lv' := [(3, .int r11), (0, .ref 80), (1, .int x4), (2, .int x1)]) kc_171_16 rfl rfl (xm_lt ml_171 rfl) ?_
        refine xi_aload_n (pc' := 18) (x := 80) kc_171_17 rfl rfl ?_
        have A16 := xq_80 K14.1
        refine xi_getfield (pc' := 21) (v := .ref 82) kc_171_18 rfl rfl rfl A16 rfl ?_
        refine xi_iload_n (pc' := 22) (x := x4) kc_171_21 rfl rfl ?_
        refine xcps4 (xk_arr K14.1 xD_82) (fun y17 A17 hy17 ry17 => ?_)
        refine xcps4 (xj_get hy17 ry17 (i := x4) (by omega) (by omega)) (fun v18 ev18 bv18 dv18 => ?_)
        refine xi_iaload (pc' := 23) (v := v18) kc_171_22 rfl A17 (by decide) rfl (xi_in (by omega) (by rw [hy17]; omega)) ev18 ?_
        refine xi_aload_n (pc' := 24) (x := 80) kc_171_23 rfl rfl ?_
        refine xi_getfield (pc' := 27) (v := .ref 82) kc_171_24 rfl rfl rfl A16 rfl ?_
        refine xi_iload_n (pc' := 28) (x := x1) kc_171_27 rfl rfl ?_
        refine xcps4 (xj_get hy17 ry17 (i := x1) (by omega) (by omega)) (fun v19 ev19 bv19 dv19 => ?_)
        refine xi_iaload (pc' := 29) (v := v19) kc_171_28 rfl A17 (by decide) rfl (xi_in (by omega) (by rw [hy17]; omega)) ev19 ?_
        refine xcps2 (α := Int32) (v18 - v19) (fun v20 ev20 => ?_)
        have zv20 : v20.toInt = (v18.toInt + (-1) * v19.toInt) := by rw [← ev20]; exact (xz_sub (X := v18.toInt) (Y := v19.toInt) rfl rfl (by omega) (by omega)).trans (by omega)
        refine xi_isub (pc' := 30) (v := v20) kc_171_29 rfl ev20 ?_
        refine xi_static (mj := 2) (as := [.int v20]) (st1 := []) (lv0 := [(0, .int v20)]) kc_171_30 rfl rfl (Nat.le_of_ble_eq_true rfl) rfl rfl (Nat.le_of_ble_eq_true rfl) (hJ _ _ _ _ (by decide)) (xm_le ml_2 rfl) rfl ?_
        refine mt_2_0 hJ hov1 hov2 (d := d) (x0 := v20) K14.1 (by first | omega | decide) (fun r21 hh22 K23 => ?_)
        have br21 := xc_rng r21
        have K24 := xk_tr K14 K23 rfl
        have A25 := xk_eqa (q := 0) K23 rfl A15
        show xw J ov (d + 2) 171 (33, [(3, .int r11), (0, .ref 80), (1, .int x4), (2, .int x1)], [.int r21], hh22) _
        refine xi_istore (pc' := 35) (lv' := [(4, .int r21), (3, .int r11), (0, .ref 80), (1, .int x4), (2, .int x1)]) kc_171_33 rfl rfl (xm_lt ml_171 rfl) ?_
        refine xi_iload_n (pc' := 36) (x := r11) kc_171_35 rfl rfl ?_
        refine xi_iload (pc' := 38) (x := r21) kc_171_36 rfl rfl ?_
        refine xcps2 (α := Int32) ((r11 : Int32) + r21) (fun v26 ev26 => ?_)
        have rv26 := xc_rng v26
        refine xi_iadd (pc' := 39) (v := v26) kc_171_38 rfl ev26 ?_
        refine xi_iconst (pc' := 40) (v := 1) kc_171_39 rfl rfl ?_
        by_cases c27 : v26.toInt = 1
        · refine xi_cmf (pc' := 43) kc_171_40 rfl (xc_ne_f (X := v26.toInt) (Y := 1) rfl (by decide) (by omega)) ?_
          refine xi_iconst (pc' := 44) (v := 1) kc_171_43 rfl rfl ?_
          refine xi_goto (pc' := 48) kc_171_44 rfl ?_
          refine xi_ireturn kc_171_48 mr_171 rfl ?_
          show xw J ov (d + 3) 175 (38, [(0, .ref 80), (1, .int x1), (2, .int x2), (3, .int x3), (4, .int x4)], [.int 1], hh22) _
          refine xi_iff (pc' := 41) kc_175_38 rfl rfl ?_
          refine xi_iload_n (pc' := 42) (x := x2) kc_175_41 rfl rfl ?_
          refine xi_iconst (pc' := 43) (v := 1) kc_175_42 rfl rfl ?_
          refine xi_iload_n (pc' := 44) (x := x3) kc_175_43 rfl rfl ?_
          refine xcps2 (α := Int32) ((1 : Int32) <<< (x3 &&& 31)) (fun v28 ev28 => ?_)
          have rv28 := xc_rng v28
          refine xi_ishl (pc' := 45) (v := v28) kc_175_44 rfl ev28 ?_
          refine xcps2 (α := Int32) ((x2 : Int32) ||| v28) (fun v29 ev29 => ?_)
          have rv29 := xc_rng v29
          refine xi_ior (pc' := 46) (v := v29) kc_175_45 rfl ev29 ?_
          refine xi_istore_n (pc' := 47) (lv' := [(2, .int v29), (0, .ref 80), (1, .int x1), (3, .int x3), (4, .int x4)]) kc_175_46 rfl rfl (xm_lt ml_175 rfl) ?_
          refine xcps2 (α := Int32) ((x3 : Int32) + 1) (fun v30 ev30 => ?_)
          have rv30 := xc_rng v30
          refine xi_iinc (pc' := 50) (x := x3) (v := v30) (lv' := [(3, .int v30), (2, .int v29), (0, .ref 80), (1, .int x1), (4, .int x4)]) kc_175_47 rfl rfl ev30 rfl (xm_lt ml_175 rfl) ?_
          refine xcps2 (α := Int32) (x4 + 1) (fun v31 ev31 => ?_)
          have zv31 : v31.toInt = (x4.toInt + 1) := by rw [← ev31]; exact (xz_add (X := x4.toInt) (Y := 1) rfl (by decide) (by omega) (by omega)).trans (by omega)
          refine xi_iinc (pc' := 53) (x := x4) (v := v31) (lv' := [(4, .int v31), (3, .int v30), (2, .int v29), (0, .ref 80), (1, .int x1)]) kc_175_50 rfl rfl ev31 rfl (xm_lt ml_175 rfl) ?_
          refine xi_goto (pc' := 7) kc_175_53 rfl ?_
          refine xw_lv (b := [(0, .ref 80), (1, .int x1), (2, .int v29), (3, .int v30), (4, .int v31)]) (lvS_cons (lvS_cons (lvS_cons (lvS_cons (lvS_cons (lvS_nil (show ([4, 3, 2, 0, 1] : List Nat).Nodup by decide)) rfl) rfl) rfl) rfl) rfl) ?_
          exact i0 x1 v29 v30 v31 hh22 (by omega) (by omega) K24 (by omega)
        · refine xi_cmt (pc' := 47) kc_171_40 rfl (xc_ne_t (X := v26.toInt) (Y := 1) rfl (by decide) (by omega)) ?_
          refine xi_iconst (pc' := 48) (v := 0) kc_171_47 rfl rfl ?_
          refine xi_ireturn kc_171_48 mr_171 rfl ?_
          show xw J ov (d + 3) 175 (38, [(0, .ref 80), (1, .int x1), (2, .int x2), (3, .int x3), (4, .int x4)], [.int 0], hh22) _
          refine xi_ift (pc' := 47) kc_175_38 rfl rfl ?_
          refine xcps2 (α := Int32) ((x3 : Int32) + 1) (fun v32 ev32 => ?_)
          have rv32 := xc_rng v32
          refine xi_iinc (pc' := 50) (x := x3) (v := v32) (lv' := [(3, .int v32), (0, .ref 80), (1, .int x1), (2, .int x2), (4, .int x4)]) kc_175_47 rfl rfl ev32 rfl (xm_lt ml_175 rfl) ?_
          refine xcps2 (α := Int32) (x4 + 1) (fun v33 ev33 => ?_)
          have zv33 : v33.toInt = (x4.toInt + 1) := by rw [← ev33]; exact (xz_add (X := x4.toInt) (Y := 1) rfl (by decide) (by omega) (by omega)).trans (by omega)
          refine xi_iinc (pc' := 53) (x := x4) (v := v33) (lv' := [(4, .int v33), (3, .int v32), (0, .ref 80), (1, .int x1), (2, .int x2)]) kc_175_50 rfl rfl ev33 rfl (xm_lt ml_175 rfl) ?_
          refine xi_goto (pc' := 7) kc_175_53 rfl ?_
          refine xw_lv (b := [(0, .ref 80), (1, .int x1), (2, .int x2), (3, .int v32), (4, .int v33)]) (lvS_cons (lvS_cons (lvS_cons (lvS_cons (lvS_cons (lvS_nil (show ([4, 3, 0, 1, 2] : List Nat).Nodup by decide)) rfl) rfl) rfl) rfl) rfl) ?_
          exact i0 x1 x2 v32 v33 hh22 (by omega) (by omega) K24 (by omega)
set_option maxHeartbeats 4000000 in
theorem mt_175_0 {J : xe_J} {ov : List (List Int32)} (hJ : ∀ d mj as h, mj ≠ xe_loff → J d mj as h = none) (hov1 : ov[1]? = some [10, 0, 0, 0, 0, 0]) (hov2 : ov[2]? = some [99, 30, 50, 50, 1, 99999]) {d : Nat} {Q : Option Value → xe_H → Prop} {h : xe_H} {x1 : Int32} (T : xt h) (b1 : (0 ≤ x1.toInt ∧ x1.toInt ≤ 23)) (kk : (∀ (r : Int32) (h' : xe_H), xk [(0, 9), (115, 1), (83, 0), (29, 0), (31, 0), (33, 0), (35, 0), (37, 0), (39, 0), (41, 0), (43, 0), (45, 0), (47, 0), (49, 0), (51, 0), (125, 0), (66, 8), (115, 18), (71, 0), (132, 0)] h h' → Q (some (.int r)) h')) : xw J ov (d + 3) 175 (0, [(0, .ref 80), (1, .int x1)], [], h) Q := by
  have K : xk [(0, 9), (115, 1), (83, 0), (29, 0), (31, 0), (33, 0), (35, 0), (37, 0), (39, 0), (41, 0), (43, 0), (45, 0), (47, 0), (49, 0), (51, 0), (125, 0), (66, 8), (115, 18), (71, 0), (132, 0)] h h := xk_re T
  refine xi_iconst (pc' := 1) (v := 0) kc_175_0 rfl rfl ?_
  refine xi_istore_n (pc' := 2) (lv' := [(2, .int 0), (0, .ref 80), (1, .int x1)]) kc_175_1 rfl rfl (xm_lt ml_175 rfl) ?_
  refine xi_iconst (pc' := 3) (v := 0) kc_175_2 rfl rfl ?_
  refine xi_istore_n (pc' := 4) (lv' := [(3, .int 0), (2, .int 0), (0, .ref 80), (1, .int x1)]) kc_175_3 rfl rfl (xm_lt ml_175 rfl) ?_
  refine xi_iconst (pc' := 5) (v := 0) kc_175_4 rfl rfl ?_
  refine xi_istore (pc' := 7) (lv' := [(4, .int 0), (3, .int 0), (2, .int 0), (0, .ref 80), (1, .int x1)]) kc_175_5 rfl rfl (xm_lt ml_175 rfl) ?_
  have zc0 : (0 : Int32).toInt = 0 := by decide
  refine xw_lv (b := [(0, .ref 80), (1, .int x1), (2, .int 0), (3, .int 0), (4, .int 0)]) (lvS_cons (lvS_cons (lvS_cons (lvS_cons (lvS_cons (lvS_nil (show ([4, 3, 2, 0, 1] : List Nat).Nodup by decide)) rfl) rfl) rfl) rfl) rfl) ?_
  exact (lp_175_0 hJ hov1 hov2 (d := d) (hb := h) (fun r9 h9 K9 => kk r9 h9 (xk_tr K K9 rfl)) 24) x1 0 0 0 h (by omega) (by omega) (xk_re K.1) (by omega)
set_option maxHeartbeats 4000000 in
theorem lp_176_0 {J : xe_J} {ov : List (List Int32)} (hJ : ∀ d mj as h, mj ≠ xe_loff → J d mj as h = none) (hov1 : ov[1]? = some [10, 0, 0, 0, 0, 0]) (hov2 : ov[2]? = some [99, 30, 50, 50, 1, 99999]) {d : Nat} {t : Nat} (hrec : (∀ {Q : Option Value → xe_H → Prop} {h : xe_H} {x1 : Int32} {x2 : Int32} {x3 : Int32} {x4 : Int32} {x5 : Int32}, xt h → (0 ≤ x1.toInt ∧ x1.toInt ≤ 16) → (0 ≤ x2.toInt ∧ x2.toInt ≤ 16) → (0 ≤ x3.toInt ∧ x3.toInt ≤ 16) → x3.toInt ≤ ((t : Nat) : Int) → (∀ (r : Int32) (h' : xe_H), xk [(0, 9), (115, 1), (83, 0), (29, 0), (31, 0), (33, 0), (35, 0), (37, 0), (39, 0), (41, 0), (43, 0), (45, 0), (47, 0), (49, 0), (51, 0), (125, 0), (66, 8), (115, 18), (71, 0), (132, 0)] h h' → Q (some (.int r)) h') → xw J ov (d + t + 2) 176 (0, [(0, .ref 80), (1, .int x1), (2, .int x2), (3, .int x3), (4, .int x4), (5, .int x5)], [], h) Q)) {Q : Option Value → xe_H → Prop} {hb : xe_H} (kk : (∀ (r : Int32) (h' : xe_H), xk [(0, 9), (115, 1), (83, 0), (29, 0), (31, 0), (33, 0), (35, 0), (37, 0), (39, 0), (41, 0), (43, 0), (45, 0), (47, 0), (49, 0), (51, 0), (125, 0), (66, 8), (115, 18), (71, 0), (132, 0)] hb h' → Q (some (.int r)) h')) : ∀ m : Nat, (∀ (x2 : Int32) (x3 : Int32) (x4 : Int32) (x5 : Int32) (x6 : Int32) (x7 : Int32) (h : xe_H), (0 ≤ x2.toInt ∧ x2.toInt ≤ 16) → (1 ≤ x3.toInt ∧ x3.toInt ≤ 16) → (0 ≤ x7.toInt ∧ x7.toInt ≤ 16) → (x3.toInt ≤ (t : Int) + 1) → xk [(0, 9), (115, 1), (83, 0), (29, 0), (31, 0), (33, 0), (35, 0), (37, 0), (39, 0), (41, 0), (43, 0), (45, 0), (47, 0), (49, 0), (51, 0), (125, 0), (66, 8), (115, 18), (71, 0), (132, 0)] hb h → (-1) * x7.toInt + 16 < (m : Int) → xw J ov (d + t + 3) 176 (21, [(0, .ref 80), (2, .int x2), (3, .int x3), (4, .int x4), (5, .int x5), (6, .int x6), (7, .int x7)], [], h) Q) := by
  intro m
  induction m with
  | zero =>
    intro x2 x3 x4 x5 x6 x7 h b2 b3 b7 hT K hm; have rx4 := xc_rng x4; have rx5 := xc_rng x5; have rx6 := xc_rng x6; exfalso; omega
  | succ m ih =>
    have i0 := ih
    intro x2 x3 x4 x5 x6 x7 h b2 b3 b7 hT K hm
    have rx4 := xc_rng x4
    have rx5 := xc_rng x5
    have rx6 := xc_rng x6
    refine xi_iload (pc' := 23) (x := x7) kc_176_21 rfl rfl ?_
    refine xi_iload_n (pc' := 24) (x := x2) kc_176_23 rfl rfl ?_
    refine xi_iload_n (pc' := 25) (x := x3) kc_176_24 rfl rfl ?_
    refine xcps2 (α := Int32) (x2 - x3) (fun v1 ev1 => ?_)
    have zv1 : v1.toInt = (x2.toInt + (-1) * x3.toInt) := by rw [← ev1]; exact (xz_sub (X := x2.toInt) (Y := x3.toInt) rfl rfl (by omega) (by omega)).trans (by omega)
    refine xi_isub (pc' := 26) (v := v1) kc_176_25 rfl ev1 ?_
    by_cases c2 : (x2.toInt + (-1) * x3.toInt) < x7.toInt
    · refine xi_cmt (pc' := 86) kc_176_26 rfl (xc_gt_t (X := x7.toInt) (Y := (x2.toInt + (-1) * x3.toInt)) rfl zv1 (by omega)) ?_
      refine xi_iload (pc' := 88) (x := x6) kc_176_86 rfl rfl ?_
      refine xi_ireturn kc_176_88 mr_176 rfl ?_
      exact kk x6 h K
    · refine xi_cmf (pc' := 29) kc_176_26 rfl (xc_gt_f (X := x7.toInt) (Y := (x2.toInt + (-1) * x3.toInt)) rfl zv1 (by omega)) ?_
      refine xi_iload (pc' := 31) (x := x7) kc_176_29 rfl rfl ?_
      refine xi_bipush (pc' := 33) (v := 16) kc_176_31 rfl rfl ?_
      by_cases c3 : 16 ≤ x7.toInt
      · refine xi_cmt (pc' := 86) kc_176_33 rfl (xc_ge_t (X := x7.toInt) (Y := 16) rfl (by decide) (by omega)) ?_
        refine xi_iload (pc' := 88) (x := x6) kc_176_86 rfl rfl ?_
        refine xi_ireturn kc_176_88 mr_176 rfl ?_
        exact kk x6 h K
      · refine xi_cmf (pc' := 36) kc_176_33 rfl (xc_ge_f (X := x7.toInt) (Y := 16) rfl (by decide) (by omega)) ?_
        refine xi_aload_n (pc' := 37) (x := 80) kc_176_36 rfl rfl ?_
        have A4 := xq_80 K.1
        refine xi_getfield (pc' := 40) (v := .ref 84) kc_176_37 rfl rfl rfl A4 rfl ?_
        refine xi_iload (pc' := 42) (x := x7) kc_176_40 rfl rfl ?_
        refine xcps4 (xk_arr K.1 xD_84) (fun y5 A5 hy5 ry5 => ?_)
        refine xcps4 (xj_get hy5 ry5 (i := x7) (by omega) (by omega)) (fun v6 ev6 bv6 dv6 => ?_)
        refine xi_iaload (pc' := 43) (v := v6) kc_176_42 rfl A5 (by decide) rfl (xi_in (by omega) (by rw [hy5]; omega)) ev6 ?_
        refine xi_iload (pc' := 45) (x := x4) kc_176_43 rfl rfl ?_
        refine xcps2 (α := Int32) ((v6 : Int32) &&& x4) (fun v7 ev7 => ?_)
        have rv7 := xc_rng v7
        refine xi_iand (pc' := 46) (v := v7) kc_176_45 rfl ev7 ?_
        refine xi_static (mj := 4) (as := [.int v7]) (st1 := []) (lv0 := [(0, .int v7)]) kc_176_46 rfl rfl (Nat.le_of_ble_eq_true rfl) rfl rfl (Nat.le_of_ble_eq_true rfl) (hJ _ _ _ _ (by decide)) (xm_le ml_4 rfl) rfl ?_
        refine mt_4_0 hJ hov1 hov2 (d := d + t + 1) (x0 := v7) K.1 (fun r8 hh9 K10 => ?_)
        have br8 := xc_rng r8
        have K11 := xk_tr K K10 rfl
        show xw J ov (d + t + 3) 176 (49, [(0, .ref 80), (2, .int x2), (3, .int x3), (4, .int x4), (5, .int x5), (6, .int x6), (7, .int x7)], [.int r8], hh9) _
        refine xi_istore (pc' := 51) (lv' := [(8, .int r8), (0, .ref 80), (2, .int x2), (3, .int x3), (4, .int x4), (5, .int x5), (6, .int x6), (7, .int x7)]) kc_176_49 rfl rfl (xm_lt ml_176 rfl) ?_
        refine xi_iload (pc' := 53) (x := x6) kc_176_51 rfl rfl ?_
        refine xi_aload_n (pc' := 54) (x := 80) kc_176_53 rfl rfl ?_
        refine xi_iload (pc' := 56) (x := x7) kc_176_54 rfl rfl ?_
        refine xi_iconst (pc' := 57) (v := 1) kc_176_56 rfl rfl ?_
        refine xcps2 (α := Int32) (x7 + 1) (fun v12 ev12 => ?_)
        have zv12 : v12.toInt = (x7.toInt + 1) := by rw [← ev12]; exact (xz_add (X := x7.toInt) (Y := 1) rfl (by decide) (by omega) (by omega)).trans (by omega)
        refine xi_iadd (pc' := 58) (v := v12) kc_176_57 rfl ev12 ?_
        refine xi_iload_n (pc' := 59) (x := x2) kc_176_58 rfl rfl ?_
        refine xi_iload_n (pc' := 60) (x := x3) kc_176_59 rfl rfl ?_
        refine xi_iconst (pc' := 61) (v := 1) kc_176_60 rfl rfl ?_
        refine xcps2 (α := Int32) (x3 - 1) (fun v13 ev13 => ?_)
        have zv13 : v13.toInt = (x3.toInt + (-1)) := by rw [← ev13]; exact (xz_sub (X := x3.toInt) (Y := 1) rfl (by decide) (by omega) (by omega)).trans (by omega)
        refine xi_isub (pc' := 62) (v := v13) kc_176_61 rfl ev13 ?_
        refine xi_iload (pc' := 64) (x := x4) kc_176_62 rfl rfl ?_
        refine xi_iconst (pc' := 65) (v := 1) kc_176_64 rfl rfl ?_
        refine xi_iload (pc' := 67) (x := x7) kc_176_65 rfl rfl ?_
        refine xcps2 (α := Int32) ((1 : Int32) <<< (x7 &&& 31)) (fun v14 ev14 => ?_)
        have rv14 := xc_rng v14
        refine xi_ishl (pc' := 68) (v := v14) kc_176_67 rfl ev14 ?_
        refine xcps2 (α := Int32) ((x4 : Int32) ||| v14) (fun v15 ev15 => ?_)
        have rv15 := xc_rng v15
        refine xi_ior (pc' := 69) (v := v15) kc_176_68 rfl ev15 ?_
        refine xi_iload (pc' := 71) (x := x5) kc_176_69 rfl rfl ?_
        refine xi_iload (pc' := 73) (x := r8) kc_176_71 rfl rfl ?_
        refine xcps2 (α := Int32) ((x5 : Int32) - r8) (fun v16 ev16 => ?_)
        have rv16 := xc_rng v16
        refine xi_isub (pc' := 74) (v := v16) kc_176_73 rfl ev16 ?_
        have A17 := xq_80 K11.1
        refine xi_virtual (mj := 176) (as := [.int v12, .int x2, .int v13, .int v15, .int v16]) (st1 := [.int x6]) (lv0 := [(0, .ref 80), (1, .int v12), (2, .int x2), (3, .int v13), (4, .int v15), (5, .int v16)]) kc_176_74 rfl rfl rfl rfl rfl A17 (Nat.le_of_ble_eq_true rfl) (hJ _ _ _ _ (by decide)) (xm_le ml_176 rfl) rfl ?_
        refine hrec (x1 := v12) (x2 := x2) (x3 := v13) (x4 := v15) (x5 := v16) K11.1 (by first | omega | decide) (by first | omega | decide) (by first | omega | decide) (by first | omega | decide) (fun r18 hh19 K20 => ?_)
        have br18 := xc_rng r18
        have K21 := xk_tr K11 K20 rfl
        show xw J ov (d + t + 3) 176 (77, [(8, .int r8), (0, .ref 80), (2, .int x2), (3, .int x3), (4, .int x4), (5, .int x5), (6, .int x6), (7, .int x7)], [.int r18, .int x6], hh19) _
        refine xcps2 (α := Int32) ((x6 : Int32) + r18) (fun v22 ev22 => ?_)
        have rv22 := xc_rng v22
        refine xi_iadd (pc' := 78) (v := v22) kc_176_77 rfl ev22 ?_
        refine xi_istore (pc' := 80) (lv' := [(6, .int v22), (8, .int r8), (0, .ref 80), (2, .int x2), (3, .int x3), (4, .int x4), (5, .int x5), (7, .int x7)]) kc_176_78 rfl rfl (xm_lt ml_176 rfl) ?_
        refine xi_iinc (pc' := 83) (x := x7) (v := v12) (lv' := [(7, .int v12), (6, .int v22), (8, .int r8), (0, .ref 80), (2, .int x2), (3, .int x3), (4, .int x4), (5, .int x5)]) kc_176_80 rfl rfl ev12 rfl (xm_lt ml_176 rfl) ?_
        refine xi_goto (pc' := 21) kc_176_83 rfl ?_
        refine xw_lv (b := [(0, .ref 80), (2, .int x2), (3, .int x3), (4, .int x4), (5, .int x5), (6, .int v22), (7, .int v12)]) (lvS_cons (lvS_cons (lvS_cons (lvS_cons (lvS_cons (lvS_cons (lvS_cons (lvS_nil (show ([7, 6, 8, 0, 2, 3, 4, 5] : List Nat).Nodup by decide)) rfl) rfl) rfl) rfl) rfl) rfl) rfl) ?_
        exact i0 x2 x3 x4 x5 v22 v12 hh19 (by omega) (by omega) (by omega) (by omega) K21 (by omega)
set_option maxHeartbeats 4000000 in
theorem mr_176_0 {J : xe_J} {ov : List (List Int32)} (hJ : ∀ d mj as h, mj ≠ xe_loff → J d mj as h = none) (hov1 : ov[1]? = some [10, 0, 0, 0, 0, 0]) (hov2 : ov[2]? = some [99, 30, 50, 50, 1, 99999]) {d : Nat} : ∀ t : Nat, (∀ {Q : Option Value → xe_H → Prop} {h : xe_H} {x1 : Int32} {x2 : Int32} {x3 : Int32} {x4 : Int32} {x5 : Int32}, xt h → (0 ≤ x1.toInt ∧ x1.toInt ≤ 16) → (0 ≤ x2.toInt ∧ x2.toInt ≤ 16) → (0 ≤ x3.toInt ∧ x3.toInt ≤ 16) → x3.toInt ≤ ((t : Nat) : Int) → (∀ (r : Int32) (h' : xe_H), xk [(0, 9), (115, 1), (83, 0), (29, 0), (31, 0), (33, 0), (35, 0), (37, 0), (39, 0), (41, 0), (43, 0), (45, 0), (47, 0), (49, 0), (51, 0), (125, 0), (66, 8), (115, 18), (71, 0), (132, 0)] h h' → Q (some (.int r)) h') → xw J ov (d + t + 2) 176 (0, [(0, .ref 80), (1, .int x1), (2, .int x2), (3, .int x3), (4, .int x4), (5, .int x5)], [], h) Q) := by
  intro t
  induction t with
  | zero =>
    intro Q h x1 x2 x3 x4 x5 T b1 b2 b3 ht kk
    have K : xk [(0, 9), (115, 1), (83, 0), (29, 0), (31, 0), (33, 0), (35, 0), (37, 0), (39, 0), (41, 0), (43, 0), (45, 0), (47, 0), (49, 0), (51, 0), (125, 0), (66, 8), (115, 18), (71, 0), (132, 0)] h h := xk_re T
    have bz : 0 ≤ x3.toInt ∧ x3.toInt ≤ 0 := by omega
    show xw J ov (d + 0 + 2) 176 (0, [(0, .ref 80), (1, .int x1), (2, .int x2), (3, .int x3), (4, .int x4), (5, .int x5)], [], h) Q
    have rx4 := xc_rng x4
    have rx5 := xc_rng x5
    refine xi_iload_n (pc' := 1) (x := x3) kc_176_0 rfl rfl ?_
    refine xi_iff (pc' := 4) kc_176_1 rfl (xc_ne_f (X := x3.toInt) (Y := 0) rfl (by decide) (by omega)) ?_
    refine xi_iload (pc' := 6) (x := x5) kc_176_4 rfl rfl ?_
    by_cases c1 : 0 < x5.toInt
    · refine xi_ift (pc' := 13) kc_176_6 rfl (xc_gt_t (X := x5.toInt) (Y := 0) rfl (by decide) (by omega)) ?_
      refine xi_iconst (pc' := 14) (v := 0) kc_176_13 rfl rfl ?_
      refine xi_ireturn kc_176_14 mr_176 rfl ?_
      have zc0 : (0 : Int32).toInt = 0 := by decide
      exact kk 0 h K
    · refine xi_iff (pc' := 9) kc_176_6 rfl (xc_gt_f (X := x5.toInt) (Y := 0) rfl (by decide) (by omega)) ?_
      refine xi_iconst (pc' := 10) (v := 1) kc_176_9 rfl rfl ?_
      refine xi_goto (pc' := 14) kc_176_10 rfl ?_
      refine xi_ireturn kc_176_14 mr_176 rfl ?_
      have zc1 : (1 : Int32).toInt = 1 := by decide
      exact kk 1 h K
  | succ t ih =>
    intro Q h x1 x2 x3 x4 x5 T b1 b2 b3 ht kk
    have hrec := @ih
    rw [show d + (t + 1) + 2 = d + t + 3 by omega]
    have K : xk [(0, 9), (115, 1), (83, 0), (29, 0), (31, 0), (33, 0), (35, 0), (37, 0), (39, 0), (41, 0), (43, 0), (45, 0), (47, 0), (49, 0), (51, 0), (125, 0), (66, 8), (115, 18), (71, 0), (132, 0)] h h := xk_re T
    have rx4 := xc_rng x4
    have rx5 := xc_rng x5
    refine xi_iload_n (pc' := 1) (x := x3) kc_176_0 rfl rfl ?_
    by_cases c1 : x3.toInt = 0
    · refine xi_iff (pc' := 4) kc_176_1 rfl (xc_ne_f (X := x3.toInt) (Y := 0) rfl (by decide) (by omega)) ?_
      refine xi_iload (pc' := 6) (x := x5) kc_176_4 rfl rfl ?_
      by_cases c2 : 0 < x5.toInt
      · refine xi_ift (pc' := 13) kc_176_6 rfl (xc_gt_t (X := x5.toInt) (Y := 0) rfl (by decide) (by omega)) ?_
        refine xi_iconst (pc' := 14) (v := 0) kc_176_13 rfl rfl ?_
        refine xi_ireturn kc_176_14 mr_176 rfl ?_
        have zc0 : (0 : Int32).toInt = 0 := by decide
        exact kk 0 h K
      · refine xi_iff (pc' := 9) kc_176_6 rfl (xc_gt_f (X := x5.toInt) (Y := 0) rfl (by decide) (by omega)) ?_
        refine xi_iconst (pc' := 10) (v := 1) kc_176_9 rfl rfl ?_
        refine xi_goto (pc' := 14) kc_176_10 rfl ?_
        refine xi_ireturn kc_176_14 mr_176 rfl ?_
        have zc1 : (1 : Int32).toInt = 1 := by decide
        exact kk 1 h K
    · refine xi_ift (pc' := 15) kc_176_1 rfl (xc_ne_t (X := x3.toInt) (Y := 0) rfl (by decide) (by omega)) ?_
      refine xi_iconst (pc' := 16) (v := 0) kc_176_15 rfl rfl ?_
      refine xi_istore (pc' := 18) (lv' := [(6, .int 0), (0, .ref 80), (1, .int x1), (2, .int x2), (3, .int x3), (4, .int x4), (5, .int x5)]) kc_176_16 rfl rfl (xm_lt ml_176 rfl) ?_
      refine xi_iload_n (pc' := 19) (x := x1) kc_176_18 rfl rfl ?_
      refine xi_istore (pc' := 21) (lv' := [(7, .int x1), (6, .int 0), (0, .ref 80), (1, .int x1), (2, .int x2), (3, .int x3), (4, .int x4), (5, .int x5)]) kc_176_19 rfl rfl (xm_lt ml_176 rfl) ?_
      have zc0 : (0 : Int32).toInt = 0 := by decide
      refine xw_lv (b := [(0, .ref 80), (2, .int x2), (3, .int x3), (4, .int x4), (5, .int x5), (6, .int 0), (7, .int x1)]) (lvS_cons (lvS_cons (lvS_cons (lvS_cons (lvS_cons (lvS_cons (lvS_cons (lvS_nil (show ([7, 6, 0, 1, 2, 3, 4, 5] : List Nat).Nodup by decide)) rfl) rfl) rfl) rfl) rfl) rfl) rfl) ?_
      exact (lp_176_0 hJ hov1 hov2 (d := d) hrec (hb := h) (fun r9 h9 K9 => kk r9 h9 (xk_tr K K9 rfl)) 17) x2 x3 x4 x5 0 x1 h (by omega) (by omega) (by omega) (by omega) (xk_re K.1) (by omega)
theorem mt_176_0 {J : xe_J} {ov : List (List Int32)} (hJ : ∀ d mj as h, mj ≠ xe_loff → J d mj as h = none) (hov1 : ov[1]? = some [10, 0, 0, 0, 0, 0]) (hov2 : ov[2]? = some [99, 30, 50, 50, 1, 99999]) {d : Nat} {Q : Option Value → xe_H → Prop} {h : xe_H} {x1 : Int32} {x2 : Int32} {x3 : Int32} {x4 : Int32} {x5 : Int32} (T : xt h) (b1 : (0 ≤ x1.toInt ∧ x1.toInt ≤ 16)) (b2 : (0 ≤ x2.toInt ∧ x2.toInt ≤ 16)) (b3 : (0 ≤ x3.toInt ∧ x3.toInt ≤ 16)) (kk : (∀ (r : Int32) (h' : xe_H), xk [(0, 9), (115, 1), (83, 0), (29, 0), (31, 0), (33, 0), (35, 0), (37, 0), (39, 0), (41, 0), (43, 0), (45, 0), (47, 0), (49, 0), (51, 0), (125, 0), (66, 8), (115, 18), (71, 0), (132, 0)] h h' → Q (some (.int r)) h')) : xw J ov (d + 18) 176 (0, [(0, .ref 80), (1, .int x1), (2, .int x2), (3, .int x3), (4, .int x4), (5, .int x5)], [], h) Q :=
  mr_176_0 hJ hov1 hov2 16 T b1 b2 b3 (by omega) kk
set_option maxHeartbeats 4000000 in
theorem lp_174_0 {J : xe_J} {ov : List (List Int32)} (hJ : ∀ d mj as h, mj ≠ xe_loff → J d mj as h = none) (hov1 : ov[1]? = some [10, 0, 0, 0, 0, 0]) (hov2 : ov[2]? = some [99, 30, 50, 50, 1, 99999]) {d : Nat} {Q : Option Value → xe_H → Prop} {hb : xe_H} (kk : (∀ (r : Int32) (h' : xe_H), xk [(0, 9), (115, 1), (83, 0), (29, 0), (31, 0), (33, 0), (35, 0), (37, 0), (39, 0), (41, 0), (43, 0), (45, 0), (47, 0), (49, 0), (51, 0), (125, 0), (66, 8), (115, 18), (71, 0), (132, 0)] hb h' → Q (some (.int r)) h')) : ∀ m : Nat, (∀ (x1 : Int32) (x2 : Int32) (x3 : Int32) (x4 : Int32) (h : xe_H), (0 ≤ x2.toInt ∧ x2.toInt ≤ 16) → (0 ≤ x3.toInt ∧ x3.toInt ≤ 17) → (0 ≤ x4.toInt ∧ x4.toInt ≤ 24) → (x3.toInt + (-1) * x2.toInt + 0 ≤ 0) → xk [(0, 9), (115, 1), (83, 0), (29, 0), (31, 0), (33, 0), (35, 0), (37, 0), (39, 0), (41, 0), (43, 0), (45, 0), (47, 0), (49, 0), (51, 0), (125, 0), (66, 8), (115, 18), (71, 0), (132, 0)] hb h → (-1) * x4.toInt + 24 < (m : Int) → xw J ov (d + 19) 174 (7, [(0, .ref 80), (1, .int x1), (2, .int x2), (3, .int x3), (4, .int x4)], [], h) Q) := by
  intro m
  induction m with
  | zero =>
    intro x1 x2 x3 x4 h b2 b3 b4 gh0 K hm; have rx1 := xc_rng x1; exfalso; omega
  | succ m ih =>
    have i0 := ih
    intro x1 x2 x3 x4 h b2 b3 b4 gh0 K hm
    have rx1 := xc_rng x1
    refine xi_iload (pc' := 9) (x := x4) kc_174_7 rfl rfl ?_
    refine xi_bipush (pc' := 11) (v := 24) kc_174_9 rfl rfl ?_
    by_cases c1 : 24 ≤ x4.toInt
    · refine xi_cmt (pc' := 62) kc_174_11 rfl (xc_ge_t (X := x4.toInt) (Y := 24) rfl (by decide) (by omega)) ?_
      refine xi_aload_n (pc' := 63) (x := 80) kc_174_62 rfl rfl ?_
      refine xi_iconst (pc' := 64) (v := 0) kc_174_63 rfl rfl ?_
      refine xi_iload_n (pc' := 65) (x := x2) kc_174_64 rfl rfl ?_
      refine xi_iload_n (pc' := 66) (x := x3) kc_174_65 rfl rfl ?_
      refine xi_iconst (pc' := 67) (v := 0) kc_174_66 rfl rfl ?_
      refine xi_iload_n (pc' := 68) (x := x1) kc_174_67 rfl rfl ?_
      have A2 := xq_80 K.1
      refine xi_virtual (mj := 176) (as := [.int 0, .int x2, .int x3, .int 0, .int x1]) (st1 := []) (lv0 := [(0, .ref 80), (1, .int 0), (2, .int x2), (3, .int x3), (4, .int 0), (5, .int x1)]) kc_174_68 rfl rfl rfl rfl rfl A2 (Nat.le_of_ble_eq_true rfl) (hJ _ _ _ _ (by decide)) (xm_le ml_176 rfl) rfl ?_
      have zc0 : (0 : Int32).toInt = 0 := by decide
      refine mt_176_0 hJ hov1 hov2 (d := d) (x1 := 0) (x2 := x2) (x3 := x3) (x4 := 0) (x5 := x1) K.1 (by first | omega | decide) (by first | omega | decide) (by first | omega | decide) (fun r3 hh4 K5 => ?_)
      have br3 := xc_rng r3
      have K6 := xk_tr K K5 rfl
      show xw J ov (d + 19) 174 (71, [(0, .ref 80), (1, .int x1), (2, .int x2), (3, .int x3), (4, .int x4)], [.int r3], hh4) _
      refine xi_ireturn kc_174_71 mr_174 rfl ?_
      exact kk r3 hh4 K6
    · refine xi_cmf (pc' := 14) kc_174_11 rfl (xc_ge_f (X := x4.toInt) (Y := 24) rfl (by decide) (by omega)) ?_
      refine xi_aload_n (pc' := 15) (x := 80) kc_174_14 rfl rfl ?_
      have A7 := xq_80 K.1
      refine xi_getfield (pc' := 18) (v := .ref 83) kc_174_15 rfl rfl rfl A7 rfl ?_
      refine xi_iload (pc' := 20) (x := x4) kc_174_18 rfl rfl ?_
      refine xcps4 (xk_arr K.1 xD_83) (fun y8 A8 hy8 ry8 => ?_)
      refine xcps4 (xj_get hy8 ry8 (i := x4) (by omega) (by omega)) (fun v9 ev9 bv9 dv9 => ?_)
      refine xi_iaload (pc' := 21) (v := v9) kc_174_20 rfl A8 (by decide) rfl (xi_in (by omega) (by rw [hy8]; omega)) ev9 ?_
      refine xi_iconst (pc' := 22) (v := 2) kc_174_21 rfl rfl ?_
      by_cases c10 : v9.toInt = 2
      · refine xi_cmt (pc' := 56) kc_174_22 rfl (xc_eq_t (X := v9.toInt) (Y := 2) rfl (by decide) (by omega)) ?_
        refine xcps2 (α := Int32) (x4 + 1) (fun v11 ev11 => ?_)
        have zv11 : v11.toInt = (x4.toInt + 1) := by rw [← ev11]; exact (xz_add (X := x4.toInt) (Y := 1) rfl (by decide) (by omega) (by omega)).trans (by omega)
        refine xi_iinc (pc' := 59) (x := x4) (v := v11) (lv' := [(4, .int v11), (0, .ref 80), (1, .int x1), (2, .int x2), (3, .int x3)]) kc_174_56 rfl rfl ev11 rfl (xm_lt ml_174 rfl) ?_
        refine xi_goto (pc' := 7) kc_174_59 rfl ?_
        refine xw_lv (b := [(0, .ref 80), (1, .int x1), (2, .int x2), (3, .int x3), (4, .int v11)]) (lvS_cons (lvS_cons (lvS_cons (lvS_cons (lvS_cons (lvS_nil (show ([4, 0, 1, 2, 3] : List Nat).Nodup by decide)) rfl) rfl) rfl) rfl) rfl) ?_
        exact i0 x1 x2 x3 v11 h (by omega) (by omega) (by omega) (by first | omega | decide) K (by omega)
      · refine xi_cmf (pc' := 25) kc_174_22 rfl (xc_eq_f (X := v9.toInt) (Y := 2) rfl (by decide) (by omega)) ?_
        refine xi_iload_n (pc' := 26) (x := x2) kc_174_25 rfl rfl ?_
        refine xi_bipush (pc' := 28) (v := 16) kc_174_26 rfl rfl ?_
        by_cases c12 : 16 ≤ x2.toInt
        · refine xi_cmt (pc' := 56) kc_174_28 rfl (xc_ge_t (X := x2.toInt) (Y := 16) rfl (by decide) (by omega)) ?_
          refine xcps2 (α := Int32) (x4 + 1) (fun v13 ev13 => ?_)
          have zv13 : v13.toInt = (x4.toInt + 1) := by rw [← ev13]; exact (xz_add (X := x4.toInt) (Y := 1) rfl (by decide) (by omega) (by omega)).trans (by omega)
          refine xi_iinc (pc' := 59) (x := x4) (v := v13) (lv' := [(4, .int v13), (0, .ref 80), (1, .int x1), (2, .int x2), (3, .int x3)]) kc_174_56 rfl rfl ev13 rfl (xm_lt ml_174 rfl) ?_
          refine xi_goto (pc' := 7) kc_174_59 rfl ?_
          refine xw_lv (b := [(0, .ref 80), (1, .int x1), (2, .int x2), (3, .int x3), (4, .int v13)]) (lvS_cons (lvS_cons (lvS_cons (lvS_cons (lvS_cons (lvS_nil (show ([4, 0, 1, 2, 3] : List Nat).Nodup by decide)) rfl) rfl) rfl) rfl) rfl) ?_
          exact i0 x1 x2 x3 v13 h (by omega) (by omega) (by omega) (by first | omega | decide) K (by omega)
        · refine xi_cmf (pc' := 31) kc_174_28 rfl (xc_ge_f (X := x2.toInt) (Y := 16) rfl (by decide) (by omega)) ?_
          refine xi_aload_n (pc' := 32) (x := 80) kc_174_31 rfl rfl ?_
          refine xi_getfield (pc' := 35) (v := .ref 84) kc_174_32 rfl rfl rfl A7 rfl ?_
          refine xi_iload_n (pc' := 36) (x := x2) kc_174_35 rfl rfl ?_
          refine xi_aload_n (pc' := 37) (x := 80) kc_174_36 rfl rfl ?_
          refine xi_iload (pc' := 39) (x := x4) kc_174_37 rfl rfl ?_
          refine xi_virtual (mj := 175) (as := [.int x4]) (st1 := [.int x2, .ref 84]) (lv0 := [(0, .ref 80), (1, .int x4)]) kc_174_39 rfl rfl rfl rfl rfl A7 (Nat.le_of_ble_eq_true rfl) (hJ _ _ _ _ (by decide)) (xm_le ml_175 rfl) rfl ?_
          refine mt_175_0 hJ hov1 hov2 (d := d + 15) (x1 := x4) K.1 (by first | omega | decide) (fun r14 hh15 K16 => ?_)
          have br14 := xc_rng r14
          have K17 := xk_tr K K16 rfl
          have A18 := xk_eqa (q := 0) K16 rfl A8
          show xw J ov (d + 19) 174 (42, [(0, .ref 80), (1, .int x1), (2, .int x2), (3, .int x3), (4, .int x4)], [.int r14, .int x2, .ref 84], hh15) _
          refine xcps4 (xk_arr K17.1 xD_84) (fun y19 A19 hy19 ry19 => ?_)
          refine xcps4 (xj_set (v := r14) hy19 ry19 x2 (by first | omega | decide) (by first | omega | decide)) (fun y20 s20 hy20 ry20 => ?_)
          refine xi_iastore (pc' := 43) (x' := y20) kc_174_42 rfl A19 rfl (xi_in (by omega) (by rw [hy19]; omega)) s20 (fun hh20 eh20 => ?_)
          have K21 := xk_pa K17 (xk_wa rfl) xD_84 hy20 ry20 eh20
          refine xcps2 (α := Int32) (x2 + 1) (fun v22 ev22 => ?_)
          have zv22 : v22.toInt = (x2.toInt + 1) := by rw [← ev22]; exact (xz_add (X := x2.toInt) (Y := 1) rfl (by decide) (by omega) (by omega)).trans (by omega)
          refine xi_iinc (pc' := 46) (x := x2) (v := v22) (lv' := [(2, .int v22), (0, .ref 80), (1, .int x1), (3, .int x3), (4, .int x4)]) kc_174_43 rfl rfl ev22 rfl (xm_lt ml_174 rfl) ?_
          refine xi_iload_n (pc' := 47) (x := x3) kc_174_46 rfl rfl ?_
          refine xi_aload_n (pc' := 48) (x := 80) kc_174_47 rfl rfl ?_
          have A23 := xq_80 K21.1
          refine xi_getfield (pc' := 51) (v := .ref 83) kc_174_48 rfl rfl rfl A23 rfl ?_
          refine xi_iload (pc' := 53) (x := x4) kc_174_51 rfl rfl ?_
          have A24 := ((eh20.2.1 83 (by decide)).trans A18)
          refine xi_iaload (pc' := 54) (v := v9) kc_174_53 rfl A24 (by decide) rfl (xi_in (by omega) (by rw [hy8]; omega)) ev9 ?_
          refine xcps2 (α := Int32) (x3 + v9) (fun v25 ev25 => ?_)
          have zv25 : v25.toInt = (x3.toInt + v9.toInt) := by rw [← ev25]; exact (xz_add (X := x3.toInt) (Y := v9.toInt) rfl rfl (by omega) (by omega)).trans (by omega)
          refine xi_iadd (pc' := 55) (v := v25) kc_174_54 rfl ev25 ?_
          refine xi_istore_n (pc' := 56) (lv' := [(3, .int v25), (2, .int v22), (0, .ref 80), (1, .int x1), (4, .int x4)]) kc_174_55 rfl rfl (xm_lt ml_174 rfl) ?_
          refine xcps2 (α := Int32) (x4 + 1) (fun v26 ev26 => ?_)
          have zv26 : v26.toInt = (x4.toInt + 1) := by rw [← ev26]; exact (xz_add (X := x4.toInt) (Y := 1) rfl (by decide) (by omega) (by omega)).trans (by omega)
          refine xi_iinc (pc' := 59) (x := x4) (v := v26) (lv' := [(4, .int v26), (3, .int v25), (2, .int v22), (0, .ref 80), (1, .int x1)]) kc_174_56 rfl rfl ev26 rfl (xm_lt ml_174 rfl) ?_
          refine xi_goto (pc' := 7) kc_174_59 rfl ?_
          refine xw_lv (b := [(0, .ref 80), (1, .int x1), (2, .int v22), (3, .int v25), (4, .int v26)]) (lvS_cons (lvS_cons (lvS_cons (lvS_cons (lvS_cons (lvS_nil (show ([4, 3, 2, 0, 1] : List Nat).Nodup by decide)) rfl) rfl) rfl) rfl) rfl) ?_
          exact i0 x1 v22 v25 v26 hh20 (by omega) (by omega) (by omega) (by first | omega | decide) K21 (by omega)
set_option maxHeartbeats 4000000 in
theorem mt_174_0 {J : xe_J} {ov : List (List Int32)} (hJ : ∀ d mj as h, mj ≠ xe_loff → J d mj as h = none) (hov1 : ov[1]? = some [10, 0, 0, 0, 0, 0]) (hov2 : ov[2]? = some [99, 30, 50, 50, 1, 99999]) {d : Nat} {Q : Option Value → xe_H → Prop} {h : xe_H} {x1 : Int32} (T : xt h) (kk : (∀ (r : Int32) (h' : xe_H), xk [(0, 9), (115, 1), (83, 0), (29, 0), (31, 0), (33, 0), (35, 0), (37, 0), (39, 0), (41, 0), (43, 0), (45, 0), (47, 0), (49, 0), (51, 0), (125, 0), (66, 8), (115, 18), (71, 0), (132, 0)] h h' → Q (some (.int r)) h')) : xw J ov (d + 19) 174 (0, [(0, .ref 80), (1, .int x1)], [], h) Q := by
  have K : xk [(0, 9), (115, 1), (83, 0), (29, 0), (31, 0), (33, 0), (35, 0), (37, 0), (39, 0), (41, 0), (43, 0), (45, 0), (47, 0), (49, 0), (51, 0), (125, 0), (66, 8), (115, 18), (71, 0), (132, 0)] h h := xk_re T
  have rx1 := xc_rng x1
  refine xi_iconst (pc' := 1) (v := 0) kc_174_0 rfl rfl ?_
  refine xi_istore_n (pc' := 2) (lv' := [(2, .int 0), (0, .ref 80), (1, .int x1)]) kc_174_1 rfl rfl (xm_lt ml_174 rfl) ?_
  refine xi_iconst (pc' := 3) (v := 0) kc_174_2 rfl rfl ?_
  refine xi_istore_n (pc' := 4) (lv' := [(3, .int 0), (2, .int 0), (0, .ref 80), (1, .int x1)]) kc_174_3 rfl rfl (xm_lt ml_174 rfl) ?_
  refine xi_iconst (pc' := 5) (v := 0) kc_174_4 rfl rfl ?_
  refine xi_istore (pc' := 7) (lv' := [(4, .int 0), (3, .int 0), (2, .int 0), (0, .ref 80), (1, .int x1)]) kc_174_5 rfl rfl (xm_lt ml_174 rfl) ?_
  have zc0 : (0 : Int32).toInt = 0 := by decide
  refine xw_lv (b := [(0, .ref 80), (1, .int x1), (2, .int 0), (3, .int 0), (4, .int 0)]) (lvS_cons (lvS_cons (lvS_cons (lvS_cons (lvS_cons (lvS_nil (show ([4, 3, 2, 0, 1] : List Nat).Nodup by decide)) rfl) rfl) rfl) rfl) rfl) ?_
  exact (lp_174_0 hJ hov1 hov2 (d := d) (hb := h) (fun r9 h9 K9 => kk r9 h9 (xk_tr K K9 rfl)) 25) x1 0 0 0 h (by omega) (by omega) (by omega) (by first | omega | decide) (xk_re K.1) (by omega)
set_option maxHeartbeats 4000000 in
theorem mt_172_0 {J : xe_J} {ov : List (List Int32)} (hJ : ∀ d mj as h, mj ≠ xe_loff → J d mj as h = none) (hov1 : ov[1]? = some [10, 0, 0, 0, 0, 0]) (hov2 : ov[2]? = some [99, 30, 50, 50, 1, 99999]) {d : Nat} {Q : Option Value → xe_H → Prop} {h : xe_H} {x1 : Int32} (T : xt h) (kk : (∀ (r : Int32) (h' : xe_H), xk [(0, 9), (115, 1), (83, 0), (29, 0), (31, 0), (33, 0), (35, 0), (37, 0), (39, 0), (41, 0), (43, 0), (45, 0), (47, 0), (49, 0), (51, 0), (125, 0), (66, 8), (115, 18), (71, 0), (132, 0)] h h' → Q (some (.int r)) h')) : xw J ov (d + 20) 172 (0, [(0, .ref 0), (1, .int x1)], [], h) Q := by
  have K : xk [(0, 9), (115, 1), (83, 0), (29, 0), (31, 0), (33, 0), (35, 0), (37, 0), (39, 0), (41, 0), (43, 0), (45, 0), (47, 0), (49, 0), (51, 0), (125, 0), (66, 8), (115, 18), (71, 0), (132, 0)] h h := xk_re T
  have rx1 := xc_rng x1
  refine xi_iload_n (pc' := 1) (x := x1) kc_172_0 rfl rfl ?_
  by_cases c1 : x1.toInt = 0
  · refine xi_ift (pc' := 16) kc_172_1 rfl (xc_eq_t (X := x1.toInt) (Y := 0) rfl (by decide) (by omega)) ?_
    refine xi_aload_n (pc' := 17) (x := 0) kc_172_16 rfl rfl ?_
    refine xp_0 K.1 (fun u2 u3 bu2 bu3 A4 => ?_)
    refine xi_getfield (pc' := 20) (v := .ref 80) kc_172_17 rfl rfl rfl A4 rfl ?_
    have A5 := xq_80 K.1
    refine xi_virtual (mj := 173) (as := []) (st1 := []) (lv0 := [(0, .ref 80)]) kc_172_20 rfl rfl rfl rfl rfl A5 (Nat.le_of_ble_eq_true rfl) (hJ _ _ _ _ (by decide)) (xm_le ml_173 rfl) rfl ?_
    refine mt_173_0 hJ hov1 hov2 (d := d + 18)  K.1 (fun r6 hh7 K8 => ?_)
    have br6 := xc_rng r6
    have K9 := xk_tr K K8 rfl
    refine xp_0 K9.1 (fun u10 u11 bu10 bu11 A12 => ?_)
    have e13 : u3 = u11 := xk_eqi (q := 9) K8 rfl A4 A12 rfl rfl
    subst e13
    show xw J ov (d + 20) 172 (23, [(0, .ref 0), (1, .int x1)], [.int r6], hh7) _
    refine xi_bipush (pc' := 25) (v := 16) kc_172_23 rfl rfl ?_
    by_cases c14 : r6.toInt ≤ 16
    · refine xi_cmt (pc' := 35) kc_172_25 rfl (xc_le_t (X := r6.toInt) (Y := 16) rfl (by decide) (by omega)) ?_
      refine xi_aload_n (pc' := 36) (x := 0) kc_172_35 rfl rfl ?_
      refine xi_getfield (pc' := 39) (v := .ref 80) kc_172_36 rfl rfl rfl A12 rfl ?_
      refine xi_iload_n (pc' := 40) (x := x1) kc_172_39 rfl rfl ?_
      refine xi_iff (pc' := 43) kc_172_40 rfl (xc_ne_f (X := x1.toInt) (Y := 0) rfl (by decide) (by omega)) ?_
      refine xi_aload_n (pc' := 44) (x := 0) kc_172_43 rfl rfl ?_
      refine xi_getfield (pc' := 47) (v := .ref 80) kc_172_44 rfl rfl rfl A12 rfl ?_
      have A15 := xq_80 K9.1
      refine xi_virtual (mj := 170) (as := []) (st1 := [.ref 80]) (lv0 := [(0, .ref 80)]) kc_172_47 rfl rfl rfl rfl rfl A15 (Nat.le_of_ble_eq_true rfl) (hJ _ _ _ _ (by decide)) (xm_le ml_170 rfl) rfl ?_
      refine mt_170_0 hJ hov1 hov2 (d := d + 16)  K9.1 (fun r16 hh17 K18 => ?_)
      have br16 := xc_rng r16
      have K19 := xk_tr K9 K18 rfl
      refine xp_0 K19.1 (fun u20 u21 bu20 bu21 A22 => ?_)
      have e23 : u3 = u21 := xk_eqi (q := 9) K18 rfl A12 A22 rfl rfl
      subst e23
      show xw J ov (d + 20) 172 (50, [(0, .ref 0), (1, .int x1)], [.int r16, .ref 80], hh17) _
      refine xi_goto (pc' := 54) kc_172_50 rfl ?_
      have A24 := xq_80 K19.1
      refine xi_virtual (mj := 174) (as := [.int r16]) (st1 := []) (lv0 := [(0, .ref 80), (1, .int r16)]) kc_172_54 rfl rfl rfl rfl rfl A24 (Nat.le_of_ble_eq_true rfl) (hJ _ _ _ _ (by decide)) (xm_le ml_174 rfl) rfl ?_
      refine mt_174_0 hJ hov1 hov2 (d := d) (x1 := r16) K19.1 (fun r25 hh26 K27 => ?_)
      have br25 := xc_rng r25
      have K28 := xk_tr K19 K27 rfl
      refine xp_0 K28.1 (fun u29 u30 bu29 bu30 A31 => ?_)
      have e32 : u3 = u30 := xk_eqi (q := 9) K27 rfl A22 A31 rfl rfl
      subst e32
      show xw J ov (d + 20) 172 (57, [(0, .ref 0), (1, .int x1)], [.int r25], hh26) _
      refine xi_ireturn kc_172_57 mr_172 rfl ?_
      exact kk r25 hh26 K28
    · refine xi_cmf (pc' := 28) kc_172_25 rfl (xc_le_f (X := r6.toInt) (Y := 16) rfl (by decide) (by omega)) ?_
      refine xi_aload_n (pc' := 29) (x := 0) kc_172_28 rfl rfl ?_
      refine xi_bipush (pc' := 31) (v := (-6)) kc_172_29 rfl rfl ?_
      refine xi_virtual (mj := 90) (as := [.int (-6)]) (st1 := []) (lv0 := [(0, .ref 0), (1, .int (-6))]) kc_172_31 rfl rfl rfl rfl rfl A12 (Nat.le_of_ble_eq_true rfl) (hJ _ _ _ _ (by decide)) (xm_le ml_90 rfl) rfl ?_
      refine xi_iload_n (pc' := 1) (x := (-6)) kc_90_0 rfl rfl ?_
      refine xi_ineg (pc' := 2) (v := 6) kc_90_1 rfl rfl ?_
      refine xi_istore_n (pc' := 3) (lv' := [(2, .int 6), (0, .ref 0), (1, .int (-6))]) kc_90_2 rfl rfl (xm_lt ml_90 rfl) ?_
      refine xi_iload_n (pc' := 4) (x := 6) kc_90_3 rfl rfl ?_
      refine xi_iff (pc' := 7) kc_90_4 rfl rfl ?_
      refine xi_iload_n (pc' := 8) (x := 6) kc_90_7 rfl rfl ?_
      refine xi_aload_n (pc' := 9) (x := 0) kc_90_8 rfl rfl ?_
      refine xi_getfield (pc' := 12) (v := .ref 94) kc_90_9 rfl rfl rfl A12 rfl ?_
      refine xcps4 (xk_arr K9.1 xD_94) (fun y33 A33 hy33 ry33 => ?_)
      refine xi_arraylength (pc' := 13) (n := 7) (v := 7) kc_90_12 rfl (xl_lenI (by decide) (by decide) A33 hy33) rfl ?_
      refine xi_cmf (pc' := 16) kc_90_13 rfl rfl ?_
      refine xi_aload_n (pc' := 17) (x := 0) kc_90_16 rfl rfl ?_
      refine xi_getfield (pc' := 20) (v := .ref 94) kc_90_17 rfl rfl rfl A12 rfl ?_
      refine xi_iload_n (pc' := 21) (x := 6) kc_90_20 rfl rfl ?_
      refine xi_dup2 (pc' := 22) kc_90_21 rfl ⟨rfl, rfl⟩ ?_
      refine xcps4 (xj_get hy33 ry33 (i := 6) (by decide) (by decide)) (fun v34 ev34 bv34 dv34 => ?_)
      refine xi_iaload (pc' := 23) (v := v34) kc_90_22 rfl A33 (by decide) rfl (xi_in (by decide) (by rw [hy33]; decide)) ev34 ?_
      refine xi_iconst (pc' := 24) (v := 1) kc_90_23 rfl rfl ?_
      refine xcps2 (α := Int32) ((v34 : Int32) + 1) (fun v35 ev35 => ?_)
      have rv35 := xc_rng v35
      refine xi_iadd (pc' := 25) (v := v35) kc_90_24 rfl ev35 ?_
      refine xcps4 (xj_set (v := v35) hy33 ry33 6 (by first | omega | decide) (by first | omega | decide)) (fun y36 s36 hy36 ry36 => ?_)
      refine xi_iastore (pc' := 26) (x' := y36) kc_90_25 rfl A33 rfl (xi_in (by decide) (by rw [hy33]; decide)) s36 (fun hh36 eh36 => ?_)
      have K37 := xk_pa K9 (xk_wa rfl) xD_94 hy36 ry36 eh36
      refine xi_iload_n (pc' := 27) (x := (-6)) kc_90_26 rfl rfl ?_
      refine xi_ireturn kc_90_27 mr_90 rfl ?_
      show xw J ov (d + 20) 172 (34, [(0, .ref 0), (1, .int x1)], [.int (-6)], hh36) _
      refine xi_ireturn kc_172_34 mr_172 rfl ?_
      have zcm6 : ((-6) : Int32).toInt = (-6) := by decide
      exact kk (-6) hh36 K37
  · refine xi_iff (pc' := 4) kc_172_1 rfl (xc_eq_f (X := x1.toInt) (Y := 0) rfl (by decide) (by omega)) ?_
    refine xi_iload_n (pc' := 5) (x := x1) kc_172_4 rfl rfl ?_
    refine xi_iconst (pc' := 6) (v := 1) kc_172_5 rfl rfl ?_
    by_cases c38 : x1.toInt = 1
    · refine xi_cmt (pc' := 16) kc_172_6 rfl (xc_eq_t (X := x1.toInt) (Y := 1) rfl (by decide) (by omega)) ?_
      refine xi_aload_n (pc' := 17) (x := 0) kc_172_16 rfl rfl ?_
      refine xp_0 K.1 (fun u39 u40 bu39 bu40 A41 => ?_)
      refine xi_getfield (pc' := 20) (v := .ref 80) kc_172_17 rfl rfl rfl A41 rfl ?_
      have A42 := xq_80 K.1
      refine xi_virtual (mj := 173) (as := []) (st1 := []) (lv0 := [(0, .ref 80)]) kc_172_20 rfl rfl rfl rfl rfl A42 (Nat.le_of_ble_eq_true rfl) (hJ _ _ _ _ (by decide)) (xm_le ml_173 rfl) rfl ?_
      refine mt_173_0 hJ hov1 hov2 (d := d + 18)  K.1 (fun r43 hh44 K45 => ?_)
      have br43 := xc_rng r43
      have K46 := xk_tr K K45 rfl
      refine xp_0 K46.1 (fun u47 u48 bu47 bu48 A49 => ?_)
      have e50 : u40 = u48 := xk_eqi (q := 9) K45 rfl A41 A49 rfl rfl
      subst e50
      show xw J ov (d + 20) 172 (23, [(0, .ref 0), (1, .int x1)], [.int r43], hh44) _
      refine xi_bipush (pc' := 25) (v := 16) kc_172_23 rfl rfl ?_
      by_cases c51 : r43.toInt ≤ 16
      · refine xi_cmt (pc' := 35) kc_172_25 rfl (xc_le_t (X := r43.toInt) (Y := 16) rfl (by decide) (by omega)) ?_
        refine xi_aload_n (pc' := 36) (x := 0) kc_172_35 rfl rfl ?_
        refine xi_getfield (pc' := 39) (v := .ref 80) kc_172_36 rfl rfl rfl A49 rfl ?_
        refine xi_iload_n (pc' := 40) (x := x1) kc_172_39 rfl rfl ?_
        refine xi_ift (pc' := 53) kc_172_40 rfl (xc_ne_t (X := x1.toInt) (Y := 0) rfl (by decide) (by omega)) ?_
        refine xi_iconst (pc' := 54) (v := 0) kc_172_53 rfl rfl ?_
        have A52 := xq_80 K46.1
        refine xi_virtual (mj := 174) (as := [.int 0]) (st1 := []) (lv0 := [(0, .ref 80), (1, .int 0)]) kc_172_54 rfl rfl rfl rfl rfl A52 (Nat.le_of_ble_eq_true rfl) (hJ _ _ _ _ (by decide)) (xm_le ml_174 rfl) rfl ?_
        have zc0 : (0 : Int32).toInt = 0 := by decide
        refine mt_174_0 hJ hov1 hov2 (d := d) (x1 := 0) K46.1 (fun r53 hh54 K55 => ?_)
        have br53 := xc_rng r53
        have K56 := xk_tr K46 K55 rfl
        refine xp_0 K56.1 (fun u57 u58 bu57 bu58 A59 => ?_)
        have e60 : u40 = u58 := xk_eqi (q := 9) K55 rfl A49 A59 rfl rfl
        subst e60
        show xw J ov (d + 20) 172 (57, [(0, .ref 0), (1, .int x1)], [.int r53], hh54) _
        refine xi_ireturn kc_172_57 mr_172 rfl ?_
        exact kk r53 hh54 K56
      · refine xi_cmf (pc' := 28) kc_172_25 rfl (xc_le_f (X := r43.toInt) (Y := 16) rfl (by decide) (by omega)) ?_
        refine xi_aload_n (pc' := 29) (x := 0) kc_172_28 rfl rfl ?_
        refine xi_bipush (pc' := 31) (v := (-6)) kc_172_29 rfl rfl ?_
        refine xi_virtual (mj := 90) (as := [.int (-6)]) (st1 := []) (lv0 := [(0, .ref 0), (1, .int (-6))]) kc_172_31 rfl rfl rfl rfl rfl A49 (Nat.le_of_ble_eq_true rfl) (hJ _ _ _ _ (by decide)) (xm_le ml_90 rfl) rfl ?_
        refine xi_iload_n (pc' := 1) (x := (-6)) kc_90_0 rfl rfl ?_
        refine xi_ineg (pc' := 2) (v := 6) kc_90_1 rfl rfl ?_
        refine xi_istore_n (pc' := 3) (lv' := [(2, .int 6), (0, .ref 0), (1, .int (-6))]) kc_90_2 rfl rfl (xm_lt ml_90 rfl) ?_
        refine xi_iload_n (pc' := 4) (x := 6) kc_90_3 rfl rfl ?_
        refine xi_iff (pc' := 7) kc_90_4 rfl rfl ?_
        refine xi_iload_n (pc' := 8) (x := 6) kc_90_7 rfl rfl ?_
        refine xi_aload_n (pc' := 9) (x := 0) kc_90_8 rfl rfl ?_
        refine xi_getfield (pc' := 12) (v := .ref 94) kc_90_9 rfl rfl rfl A49 rfl ?_
        refine xcps4 (xk_arr K46.1 xD_94) (fun y61 A61 hy61 ry61 => ?_)
        refine xi_arraylength (pc' := 13) (n := 7) (v := 7) kc_90_12 rfl (xl_lenI (by decide) (by decide) A61 hy61) rfl ?_
        refine xi_cmf (pc' := 16) kc_90_13 rfl rfl ?_
        refine xi_aload_n (pc' := 17) (x := 0) kc_90_16 rfl rfl ?_
        refine xi_getfield (pc' := 20) (v := .ref 94) kc_90_17 rfl rfl rfl A49 rfl ?_
        refine xi_iload_n (pc' := 21) (x := 6) kc_90_20 rfl rfl ?_
        refine xi_dup2 (pc' := 22) kc_90_21 rfl ⟨rfl, rfl⟩ ?_
        refine xcps4 (xj_get hy61 ry61 (i := 6) (by decide) (by decide)) (fun v62 ev62 bv62 dv62 => ?_)
        refine xi_iaload (pc' := 23) (v := v62) kc_90_22 rfl A61 (by decide) rfl (xi_in (by decide) (by rw [hy61]; decide)) ev62 ?_
        refine xi_iconst (pc' := 24) (v := 1) kc_90_23 rfl rfl ?_
        refine xcps2 (α := Int32) ((v62 : Int32) + 1) (fun v63 ev63 => ?_)
        have rv63 := xc_rng v63
        refine xi_iadd (pc' := 25) (v := v63) kc_90_24 rfl ev63 ?_
        refine xcps4 (xj_set (v := v63) hy61 ry61 6 (by first | omega | decide) (by first | omega | decide)) (fun y64 s64 hy64 ry64 => ?_)
        refine xi_iastore (pc' := 26) (x' := y64) kc_90_25 rfl A61 rfl (xi_in (by decide) (by rw [hy61]; decide)) s64 (fun hh64 eh64 => ?_)
        have K65 := xk_pa K46 (xk_wa rfl) xD_94 hy64 ry64 eh64
        refine xi_iload_n (pc' := 27) (x := (-6)) kc_90_26 rfl rfl ?_
        refine xi_ireturn kc_90_27 mr_90 rfl ?_
        show xw J ov (d + 20) 172 (34, [(0, .ref 0), (1, .int x1)], [.int (-6)], hh64) _
        refine xi_ireturn kc_172_34 mr_172 rfl ?_
        have zcm6 : ((-6) : Int32).toInt = (-6) := by decide
        exact kk (-6) hh64 K65
    · refine xi_cmf (pc' := 9) kc_172_6 rfl (xc_eq_f (X := x1.toInt) (Y := 1) rfl (by decide) (by omega)) ?_
      refine xi_aload_n (pc' := 10) (x := 0) kc_172_9 rfl rfl ?_
      refine xi_bipush (pc' := 12) (v := (-2)) kc_172_10 rfl rfl ?_
      refine xp_0 K.1 (fun u66 u67 bu66 bu67 A68 => ?_)
      refine xi_virtual (mj := 90) (as := [.int (-2)]) (st1 := []) (lv0 := [(0, .ref 0), (1, .int (-2))]) kc_172_12 rfl rfl rfl rfl rfl A68 (Nat.le_of_ble_eq_true rfl) (hJ _ _ _ _ (by decide)) (xm_le ml_90 rfl) rfl ?_
      refine xi_iload_n (pc' := 1) (x := (-2)) kc_90_0 rfl rfl ?_
      refine xi_ineg (pc' := 2) (v := 2) kc_90_1 rfl rfl ?_
      refine xi_istore_n (pc' := 3) (lv' := [(2, .int 2), (0, .ref 0), (1, .int (-2))]) kc_90_2 rfl rfl (xm_lt ml_90 rfl) ?_
      refine xi_iload_n (pc' := 4) (x := 2) kc_90_3 rfl rfl ?_
      refine xi_iff (pc' := 7) kc_90_4 rfl rfl ?_
      refine xi_iload_n (pc' := 8) (x := 2) kc_90_7 rfl rfl ?_
      refine xi_aload_n (pc' := 9) (x := 0) kc_90_8 rfl rfl ?_
      refine xi_getfield (pc' := 12) (v := .ref 94) kc_90_9 rfl rfl rfl A68 rfl ?_
      refine xcps4 (xk_arr K.1 xD_94) (fun y69 A69 hy69 ry69 => ?_)
      refine xi_arraylength (pc' := 13) (n := 7) (v := 7) kc_90_12 rfl (xl_lenI (by decide) (by decide) A69 hy69) rfl ?_
      refine xi_cmf (pc' := 16) kc_90_13 rfl rfl ?_
      refine xi_aload_n (pc' := 17) (x := 0) kc_90_16 rfl rfl ?_
      refine xi_getfield (pc' := 20) (v := .ref 94) kc_90_17 rfl rfl rfl A68 rfl ?_
      refine xi_iload_n (pc' := 21) (x := 2) kc_90_20 rfl rfl ?_
      refine xi_dup2 (pc' := 22) kc_90_21 rfl ⟨rfl, rfl⟩ ?_
      refine xcps4 (xj_get hy69 ry69 (i := 2) (by decide) (by decide)) (fun v70 ev70 bv70 dv70 => ?_)
      refine xi_iaload (pc' := 23) (v := v70) kc_90_22 rfl A69 (by decide) rfl (xi_in (by decide) (by rw [hy69]; decide)) ev70 ?_
      refine xi_iconst (pc' := 24) (v := 1) kc_90_23 rfl rfl ?_
      refine xcps2 (α := Int32) ((v70 : Int32) + 1) (fun v71 ev71 => ?_)
      have rv71 := xc_rng v71
      refine xi_iadd (pc' := 25) (v := v71) kc_90_24 rfl ev71 ?_
      refine xcps4 (xj_set (v := v71) hy69 ry69 2 (by first | omega | decide) (by first | omega | decide)) (fun y72 s72 hy72 ry72 => ?_)
      refine xi_iastore (pc' := 26) (x' := y72) kc_90_25 rfl A69 rfl (xi_in (by decide) (by rw [hy69]; decide)) s72 (fun hh72 eh72 => ?_)
      have K73 := xk_pa K (xk_wa rfl) xD_94 hy72 ry72 eh72
      refine xi_iload_n (pc' := 27) (x := (-2)) kc_90_26 rfl rfl ?_
      refine xi_ireturn kc_90_27 mr_90 rfl ?_
      show xw J ov (d + 20) 172 (15, [(0, .ref 0), (1, .int x1)], [.int (-2)], hh72) _
      refine xi_ireturn kc_172_15 mr_172 rfl ?_
      have zcm2 : ((-2) : Int32).toInt = (-2) := by decide
      exact kk (-2) hh72 K73
set_option maxHeartbeats 4000000 in
theorem mt_177_0 {J : xe_J} {ov : List (List Int32)} (hJ : ∀ d mj as h, mj ≠ xe_loff → J d mj as h = none) (hov1 : ov[1]? = some [10, 0, 0, 0, 0, 0]) (hov2 : ov[2]? = some [99, 30, 50, 50, 1, 99999]) {d : Nat} {Q : Option Value → xe_H → Prop} {h : xe_H} {x1 : Int32} {x2 : Int32} {x3 : Int32} {x4 : Int32} (T : xt h) (kk : (∀ (r : Int32) (h' : xe_H), ((-6) ≤ r.toInt ∧ r.toInt ≤ 11) → xk [(0, 9), (115, 1), (83, 0), (29, 0), (31, 0), (33, 0), (35, 0), (37, 0), (39, 0), (41, 0), (43, 0), (45, 0), (47, 0), (49, 0), (51, 0), (125, 0), (66, 8), (115, 18), (71, 0), (132, 0)] h h' → Q (some (.int r)) h')) : xw J ov (d + 1) 177 (0, [(0, .ref 0), (1, .int x1), (2, .int x2), (3, .int x3), (4, .int x4)], [], h) Q := by
  have K : xk [(0, 9), (115, 1), (83, 0), (29, 0), (31, 0), (33, 0), (35, 0), (37, 0), (39, 0), (41, 0), (43, 0), (45, 0), (47, 0), (49, 0), (51, 0), (125, 0), (66, 8), (115, 18), (71, 0), (132, 0)] h h := xk_re T
  have rx1 := xc_rng x1
  have rx2 := xc_rng x2
  have rx3 := xc_rng x3
  have rx4 := xc_rng x4
  refine xi_iload_n (pc' := 1) (x := x2) kc_177_0 rfl rfl ?_
  refine xi_static (mj := 117) (as := [.int x2]) (st1 := []) (lv0 := [(0, .int x2)]) kc_177_1 rfl rfl (Nat.le_of_ble_eq_true rfl) rfl rfl (Nat.le_of_ble_eq_true rfl) (hJ _ _ _ _ (by decide)) (xm_le ml_117 rfl) rfl ?_
  refine xi_iload_n (pc' := 1) (x := x2) kc_117_0 rfl rfl ?_
  by_cases c1 : x2.toInt < 0
  · refine xi_ift (pc' := 13) kc_117_1 rfl (xc_lt_t (X := x2.toInt) (Y := 0) rfl (by decide) (by omega)) ?_
    refine xi_iconst (pc' := 14) (v := 0) kc_117_13 rfl rfl ?_
    refine xi_ireturn kc_117_14 mr_117 rfl ?_
    show xw J ov (d + 1) 177 (4, [(0, .ref 0), (1, .int x1), (2, .int x2), (3, .int x3), (4, .int x4)], [.int 0], h) _
    refine xi_ift (pc' := 16) kc_177_4 rfl rfl ?_
    refine xi_aload_n (pc' := 17) (x := 0) kc_177_16 rfl rfl ?_
    refine xi_bipush (pc' := 19) (v := (-2)) kc_177_17 rfl rfl ?_
    refine xp_0 K.1 (fun u2 u3 bu2 bu3 A4 => ?_)
    refine xi_virtual (mj := 90) (as := [.int (-2)]) (st1 := []) (lv0 := [(0, .ref 0), (1, .int (-2))]) kc_177_19 rfl rfl rfl rfl rfl A4 (Nat.le_of_ble_eq_true rfl) (hJ _ _ _ _ (by decide)) (xm_le ml_90 rfl) rfl ?_
    refine xi_iload_n (pc' := 1) (x := (-2)) kc_90_0 rfl rfl ?_
    refine xi_ineg (pc' := 2) (v := 2) kc_90_1 rfl rfl ?_
    refine xi_istore_n (pc' := 3) (lv' := [(2, .int 2), (0, .ref 0), (1, .int (-2))]) kc_90_2 rfl rfl (xm_lt ml_90 rfl) ?_
    refine xi_iload_n (pc' := 4) (x := 2) kc_90_3 rfl rfl ?_
    refine xi_iff (pc' := 7) kc_90_4 rfl rfl ?_
    refine xi_iload_n (pc' := 8) (x := 2) kc_90_7 rfl rfl ?_
    refine xi_aload_n (pc' := 9) (x := 0) kc_90_8 rfl rfl ?_
    refine xi_getfield (pc' := 12) (v := .ref 94) kc_90_9 rfl rfl rfl A4 rfl ?_
    refine xcps4 (xk_arr K.1 xD_94) (fun y5 A5 hy5 ry5 => ?_)
    refine xi_arraylength (pc' := 13) (n := 7) (v := 7) kc_90_12 rfl (xl_lenI (by decide) (by decide) A5 hy5) rfl ?_
    refine xi_cmf (pc' := 16) kc_90_13 rfl rfl ?_
    refine xi_aload_n (pc' := 17) (x := 0) kc_90_16 rfl rfl ?_
    refine xi_getfield (pc' := 20) (v := .ref 94) kc_90_17 rfl rfl rfl A4 rfl ?_
    refine xi_iload_n (pc' := 21) (x := 2) kc_90_20 rfl rfl ?_
    refine xi_dup2 (pc' := 22) kc_90_21 rfl ⟨rfl, rfl⟩ ?_
    refine xcps4 (xj_get hy5 ry5 (i := 2) (by decide) (by decide)) (fun v6 ev6 bv6 dv6 => ?_)
    refine xi_iaload (pc' := 23) (v := v6) kc_90_22 rfl A5 (by decide) rfl (xi_in (by decide) (by rw [hy5]; decide)) ev6 ?_
    refine xi_iconst (pc' := 24) (v := 1) kc_90_23 rfl rfl ?_
    refine xcps2 (α := Int32) ((v6 : Int32) + 1) (fun v7 ev7 => ?_)
    have rv7 := xc_rng v7
    refine xi_iadd (pc' := 25) (v := v7) kc_90_24 rfl ev7 ?_
    refine xcps4 (xj_set (v := v7) hy5 ry5 2 (by first | omega | decide) (by first | omega | decide)) (fun y8 s8 hy8 ry8 => ?_)
    refine xi_iastore (pc' := 26) (x' := y8) kc_90_25 rfl A5 rfl (xi_in (by decide) (by rw [hy5]; decide)) s8 (fun hh8 eh8 => ?_)
    have K9 := xk_pa K (xk_wa rfl) xD_94 hy8 ry8 eh8
    refine xi_iload_n (pc' := 27) (x := (-2)) kc_90_26 rfl rfl ?_
    refine xi_ireturn kc_90_27 mr_90 rfl ?_
    show xw J ov (d + 1) 177 (22, [(0, .ref 0), (1, .int x1), (2, .int x2), (3, .int x3), (4, .int x4)], [.int (-2)], hh8) _
    refine xi_ireturn kc_177_22 mr_177 rfl ?_
    have zcm2 : ((-2) : Int32).toInt = (-2) := by decide
    exact kk (-2) hh8 (by omega) K9
  · refine xi_iff (pc' := 4) kc_117_1 rfl (xc_lt_f (X := x2.toInt) (Y := 0) rfl (by decide) (by omega)) ?_
    refine xi_iload_n (pc' := 5) (x := x2) kc_117_4 rfl rfl ?_
    refine xi_iconst (pc' := 6) (v := 4) kc_117_5 rfl rfl ?_
    by_cases c10 : 4 ≤ x2.toInt
    · refine xi_cmt (pc' := 13) kc_117_6 rfl (xc_ge_t (X := x2.toInt) (Y := 4) rfl (by decide) (by omega)) ?_
      refine xi_iconst (pc' := 14) (v := 0) kc_117_13 rfl rfl ?_
      refine xi_ireturn kc_117_14 mr_117 rfl ?_
      show xw J ov (d + 1) 177 (4, [(0, .ref 0), (1, .int x1), (2, .int x2), (3, .int x3), (4, .int x4)], [.int 0], h) _
      refine xi_ift (pc' := 16) kc_177_4 rfl rfl ?_
      refine xi_aload_n (pc' := 17) (x := 0) kc_177_16 rfl rfl ?_
      refine xi_bipush (pc' := 19) (v := (-2)) kc_177_17 rfl rfl ?_
      refine xp_0 K.1 (fun u11 u12 bu11 bu12 A13 => ?_)
      refine xi_virtual (mj := 90) (as := [.int (-2)]) (st1 := []) (lv0 := [(0, .ref 0), (1, .int (-2))]) kc_177_19 rfl rfl rfl rfl rfl A13 (Nat.le_of_ble_eq_true rfl) (hJ _ _ _ _ (by decide)) (xm_le ml_90 rfl) rfl ?_
      refine xi_iload_n (pc' := 1) (x := (-2)) kc_90_0 rfl rfl ?_
      refine xi_ineg (pc' := 2) (v := 2) kc_90_1 rfl rfl ?_
      refine xi_istore_n (pc' := 3) (lv' := [(2, .int 2), (0, .ref 0), (1, .int (-2))]) kc_90_2 rfl rfl (xm_lt ml_90 rfl) ?_
      refine xi_iload_n (pc' := 4) (x := 2) kc_90_3 rfl rfl ?_
      refine xi_iff (pc' := 7) kc_90_4 rfl rfl ?_
      refine xi_iload_n (pc' := 8) (x := 2) kc_90_7 rfl rfl ?_
      refine xi_aload_n (pc' := 9) (x := 0) kc_90_8 rfl rfl ?_
      refine xi_getfield (pc' := 12) (v := .ref 94) kc_90_9 rfl rfl rfl A13 rfl ?_
      refine xcps4 (xk_arr K.1 xD_94) (fun y14 A14 hy14 ry14 => ?_)
      refine xi_arraylength (pc' := 13) (n := 7) (v := 7) kc_90_12 rfl (xl_lenI (by decide) (by decide) A14 hy14) rfl ?_
      refine xi_cmf (pc' := 16) kc_90_13 rfl rfl ?_
      refine xi_aload_n (pc' := 17) (x := 0) kc_90_16 rfl rfl ?_
      refine xi_getfield (pc' := 20) (v := .ref 94) kc_90_17 rfl rfl rfl A13 rfl ?_
      refine xi_iload_n (pc' := 21) (x := 2) kc_90_20 rfl rfl ?_
      refine xi_dup2 (pc' := 22) kc_90_21 rfl ⟨rfl, rfl⟩ ?_
      refine xcps4 (xj_get hy14 ry14 (i := 2) (by decide) (by decide)) (fun v15 ev15 bv15 dv15 => ?_)
      refine xi_iaload (pc' := 23) (v := v15) kc_90_22 rfl A14 (by decide) rfl (xi_in (by decide) (by rw [hy14]; decide)) ev15 ?_
      refine xi_iconst (pc' := 24) (v := 1) kc_90_23 rfl rfl ?_
      refine xcps2 (α := Int32) ((v15 : Int32) + 1) (fun v16 ev16 => ?_)
      have rv16 := xc_rng v16
      refine xi_iadd (pc' := 25) (v := v16) kc_90_24 rfl ev16 ?_
      refine xcps4 (xj_set (v := v16) hy14 ry14 2 (by first | omega | decide) (by first | omega | decide)) (fun y17 s17 hy17 ry17 => ?_)
      refine xi_iastore (pc' := 26) (x' := y17) kc_90_25 rfl A14 rfl (xi_in (by decide) (by rw [hy14]; decide)) s17 (fun hh17 eh17 => ?_)
      have K18 := xk_pa K (xk_wa rfl) xD_94 hy17 ry17 eh17
      refine xi_iload_n (pc' := 27) (x := (-2)) kc_90_26 rfl rfl ?_
      refine xi_ireturn kc_90_27 mr_90 rfl ?_
      show xw J ov (d + 1) 177 (22, [(0, .ref 0), (1, .int x1), (2, .int x2), (3, .int x3), (4, .int x4)], [.int (-2)], hh17) _
      refine xi_ireturn kc_177_22 mr_177 rfl ?_
      have zcm2 : ((-2) : Int32).toInt = (-2) := by decide
      exact kk (-2) hh17 (by omega) K18
    · refine xi_cmf (pc' := 9) kc_117_6 rfl (xc_ge_f (X := x2.toInt) (Y := 4) rfl (by decide) (by omega)) ?_
      refine xi_iconst (pc' := 10) (v := 1) kc_117_9 rfl rfl ?_
      refine xi_goto (pc' := 14) kc_117_10 rfl ?_
      refine xi_ireturn kc_117_14 mr_117 rfl ?_
      show xw J ov (d + 1) 177 (4, [(0, .ref 0), (1, .int x1), (2, .int x2), (3, .int x3), (4, .int x4)], [.int 1], h) _
      refine xi_iff (pc' := 7) kc_177_4 rfl rfl ?_
      refine xi_iload_n (pc' := 8) (x := x3) kc_177_7 rfl rfl ?_
      by_cases c19 : x3.toInt < 0
      · refine xi_ift (pc' := 16) kc_177_8 rfl (xc_lt_t (X := x3.toInt) (Y := 0) rfl (by decide) (by omega)) ?_
        refine xi_aload_n (pc' := 17) (x := 0) kc_177_16 rfl rfl ?_
        refine xi_bipush (pc' := 19) (v := (-2)) kc_177_17 rfl rfl ?_
        refine xp_0 K.1 (fun u20 u21 bu20 bu21 A22 => ?_)
        refine xi_virtual (mj := 90) (as := [.int (-2)]) (st1 := []) (lv0 := [(0, .ref 0), (1, .int (-2))]) kc_177_19 rfl rfl rfl rfl rfl A22 (Nat.le_of_ble_eq_true rfl) (hJ _ _ _ _ (by decide)) (xm_le ml_90 rfl) rfl ?_
        refine xi_iload_n (pc' := 1) (x := (-2)) kc_90_0 rfl rfl ?_
        refine xi_ineg (pc' := 2) (v := 2) kc_90_1 rfl rfl ?_
        refine xi_istore_n (pc' := 3) (lv' := [(2, .int 2), (0, .ref 0), (1, .int (-2))]) kc_90_2 rfl rfl (xm_lt ml_90 rfl) ?_
        refine xi_iload_n (pc' := 4) (x := 2) kc_90_3 rfl rfl ?_
        refine xi_iff (pc' := 7) kc_90_4 rfl rfl ?_
        refine xi_iload_n (pc' := 8) (x := 2) kc_90_7 rfl rfl ?_
        refine xi_aload_n (pc' := 9) (x := 0) kc_90_8 rfl rfl ?_
        refine xi_getfield (pc' := 12) (v := .ref 94) kc_90_9 rfl rfl rfl A22 rfl ?_
        refine xcps4 (xk_arr K.1 xD_94) (fun y23 A23 hy23 ry23 => ?_)
        refine xi_arraylength (pc' := 13) (n := 7) (v := 7) kc_90_12 rfl (xl_lenI (by decide) (by decide) A23 hy23) rfl ?_
        refine xi_cmf (pc' := 16) kc_90_13 rfl rfl ?_
        refine xi_aload_n (pc' := 17) (x := 0) kc_90_16 rfl rfl ?_
        refine xi_getfield (pc' := 20) (v := .ref 94) kc_90_17 rfl rfl rfl A22 rfl ?_
        refine xi_iload_n (pc' := 21) (x := 2) kc_90_20 rfl rfl ?_
        refine xi_dup2 (pc' := 22) kc_90_21 rfl ⟨rfl, rfl⟩ ?_
        refine xcps4 (xj_get hy23 ry23 (i := 2) (by decide) (by decide)) (fun v24 ev24 bv24 dv24 => ?_)
        refine xi_iaload (pc' := 23) (v := v24) kc_90_22 rfl A23 (by decide) rfl (xi_in (by decide) (by rw [hy23]; decide)) ev24 ?_
        refine xi_iconst (pc' := 24) (v := 1) kc_90_23 rfl rfl ?_
        refine xcps2 (α := Int32) ((v24 : Int32) + 1) (fun v25 ev25 => ?_)
        have rv25 := xc_rng v25
        refine xi_iadd (pc' := 25) (v := v25) kc_90_24 rfl ev25 ?_
        refine xcps4 (xj_set (v := v25) hy23 ry23 2 (by first | omega | decide) (by first | omega | decide)) (fun y26 s26 hy26 ry26 => ?_)
        refine xi_iastore (pc' := 26) (x' := y26) kc_90_25 rfl A23 rfl (xi_in (by decide) (by rw [hy23]; decide)) s26 (fun hh26 eh26 => ?_)
        have K27 := xk_pa K (xk_wa rfl) xD_94 hy26 ry26 eh26
        refine xi_iload_n (pc' := 27) (x := (-2)) kc_90_26 rfl rfl ?_
        refine xi_ireturn kc_90_27 mr_90 rfl ?_
        show xw J ov (d + 1) 177 (22, [(0, .ref 0), (1, .int x1), (2, .int x2), (3, .int x3), (4, .int x4)], [.int (-2)], hh26) _
        refine xi_ireturn kc_177_22 mr_177 rfl ?_
        have zcm2 : ((-2) : Int32).toInt = (-2) := by decide
        exact kk (-2) hh26 (by omega) K27
      · refine xi_iff (pc' := 11) kc_177_8 rfl (xc_lt_f (X := x3.toInt) (Y := 0) rfl (by decide) (by omega)) ?_
        refine xi_iload_n (pc' := 12) (x := x3) kc_177_11 rfl rfl ?_
        refine xi_iconst (pc' := 13) (v := 1) kc_177_12 rfl rfl ?_
        by_cases c28 : x3.toInt ≤ 1
        · refine xi_cmt (pc' := 23) kc_177_13 rfl (xc_le_t (X := x3.toInt) (Y := 1) rfl (by decide) (by omega)) ?_
          refine xi_iload_n (pc' := 24) (x := x1) kc_177_23 rfl rfl ?_
          refine xi_aload_n (pc' := 25) (x := 0) kc_177_24 rfl rfl ?_
          refine xp_0 K.1 (fun u29 u30 bu29 bu30 A31 => ?_)
          refine xi_getfield (pc' := 28) (v := .int u30) kc_177_25 rfl rfl rfl A31 rfl ?_
          refine xi_bipush (pc' := 30) (v := 24) kc_177_28 rfl rfl ?_
          refine xcps2 (α := Int32) (u30 / 24) (fun v32 ev32 => ?_)
          have dv32 : v32.toInt = u30.toInt / 24 := by rw [← ev32]; exact xz_dive (X := u30.toInt) (Y := 24) rfl (by decide) (by omega) (by decide)
          have bv32 : 0 ≤ v32.toInt ∧ v32.toInt ≤ 25 := by omega
          refine xi_idiv (pc' := 31) (v := v32) kc_177_30 rfl ev32 (by decide) ?_
          by_cases c33 : x1.toInt < v32.toInt
          · refine xi_cmt (pc' := 39) kc_177_31 rfl (xc_lt_t (X := x1.toInt) (Y := v32.toInt) rfl rfl (by omega)) ?_
            refine xi_aload_n (pc' := 40) (x := 0) kc_177_39 rfl rfl ?_
            refine xi_bipush (pc' := 42) (v := (-4)) kc_177_40 rfl rfl ?_
            refine xi_virtual (mj := 90) (as := [.int (-4)]) (st1 := []) (lv0 := [(0, .ref 0), (1, .int (-4))]) kc_177_42 rfl rfl rfl rfl rfl A31 (Nat.le_of_ble_eq_true rfl) (hJ _ _ _ _ (by decide)) (xm_le ml_90 rfl) rfl ?_
            refine xi_iload_n (pc' := 1) (x := (-4)) kc_90_0 rfl rfl ?_
            refine xi_ineg (pc' := 2) (v := 4) kc_90_1 rfl rfl ?_
            refine xi_istore_n (pc' := 3) (lv' := [(2, .int 4), (0, .ref 0), (1, .int (-4))]) kc_90_2 rfl rfl (xm_lt ml_90 rfl) ?_
            refine xi_iload_n (pc' := 4) (x := 4) kc_90_3 rfl rfl ?_
            refine xi_iff (pc' := 7) kc_90_4 rfl rfl ?_
            refine xi_iload_n (pc' := 8) (x := 4) kc_90_7 rfl rfl ?_
            refine xi_aload_n (pc' := 9) (x := 0) kc_90_8 rfl rfl ?_
            refine xi_getfield (pc' := 12) (v := .ref 94) kc_90_9 rfl rfl rfl A31 rfl ?_
            refine xcps4 (xk_arr K.1 xD_94) (fun y34 A34 hy34 ry34 => ?_)
            refine xi_arraylength (pc' := 13) (n := 7) (v := 7) kc_90_12 rfl (xl_lenI (by decide) (by decide) A34 hy34) rfl ?_
            refine xi_cmf (pc' := 16) kc_90_13 rfl rfl ?_
            refine xi_aload_n (pc' := 17) (x := 0) kc_90_16 rfl rfl ?_
            refine xi_getfield (pc' := 20) (v := .ref 94) kc_90_17 rfl rfl rfl A31 rfl ?_
            refine xi_iload_n (pc' := 21) (x := 4) kc_90_20 rfl rfl ?_
            refine xi_dup2 (pc' := 22) kc_90_21 rfl ⟨rfl, rfl⟩ ?_
            refine xcps4 (xj_get hy34 ry34 (i := 4) (by decide) (by decide)) (fun v35 ev35 bv35 dv35 => ?_)
            refine xi_iaload (pc' := 23) (v := v35) kc_90_22 rfl A34 (by decide) rfl (xi_in (by decide) (by rw [hy34]; decide)) ev35 ?_
            refine xi_iconst (pc' := 24) (v := 1) kc_90_23 rfl rfl ?_
            refine xcps2 (α := Int32) ((v35 : Int32) + 1) (fun v36 ev36 => ?_)
            have rv36 := xc_rng v36
            refine xi_iadd (pc' := 25) (v := v36) kc_90_24 rfl ev36 ?_
            refine xcps4 (xj_set (v := v36) hy34 ry34 4 (by first | omega | decide) (by first | omega | decide)) (fun y37 s37 hy37 ry37 => ?_)
            refine xi_iastore (pc' := 26) (x' := y37) kc_90_25 rfl A34 rfl (xi_in (by decide) (by rw [hy34]; decide)) s37 (fun hh37 eh37 => ?_)
            have K38 := xk_pa K (xk_wa rfl) xD_94 hy37 ry37 eh37
            refine xi_iload_n (pc' := 27) (x := (-4)) kc_90_26 rfl rfl ?_
            refine xi_ireturn kc_90_27 mr_90 rfl ?_
            show xw J ov (d + 1) 177 (45, [(0, .ref 0), (1, .int x1), (2, .int x2), (3, .int x3), (4, .int x4)], [.int (-4)], hh37) _
            refine xi_ireturn kc_177_45 mr_177 rfl ?_
            have zcm4 : ((-4) : Int32).toInt = (-4) := by decide
            exact kk (-4) hh37 (by omega) K38
          · refine xi_cmf (pc' := 34) kc_177_31 rfl (xc_lt_f (X := x1.toInt) (Y := v32.toInt) rfl rfl (by omega)) ?_
            refine xi_iload (pc' := 36) (x := x4) kc_177_34 rfl rfl ?_
            by_cases c39 : 0 ≤ x4.toInt
            · refine xi_ift (pc' := 46) kc_177_36 rfl (xc_ge_t (X := x4.toInt) (Y := 0) rfl (by decide) (by omega)) ?_
              refine xi_iload_n (pc' := 47) (x := x1) kc_177_46 rfl rfl ?_
              refine xi_bipush (pc' := 49) (v := 25) kc_177_47 rfl rfl ?_
              by_cases c40 : 25 < x1.toInt
              · refine xi_cmt (pc' := 71) kc_177_49 rfl (xc_gt_t (X := x1.toInt) (Y := 25) rfl (by decide) (by omega)) ?_
                refine xi_aload_n (pc' := 72) (x := 0) kc_177_71 rfl rfl ?_
                refine xi_bipush (pc' := 74) (v := (-6)) kc_177_72 rfl rfl ?_
                refine xi_virtual (mj := 90) (as := [.int (-6)]) (st1 := []) (lv0 := [(0, .ref 0), (1, .int (-6))]) kc_177_74 rfl rfl rfl rfl rfl A31 (Nat.le_of_ble_eq_true rfl) (hJ _ _ _ _ (by decide)) (xm_le ml_90 rfl) rfl ?_
                refine xi_iload_n (pc' := 1) (x := (-6)) kc_90_0 rfl rfl ?_
                refine xi_ineg (pc' := 2) (v := 6) kc_90_1 rfl rfl ?_
                refine xi_istore_n (pc' := 3) (lv' := [(2, .int 6), (0, .ref 0), (1, .int (-6))]) kc_90_2 rfl rfl (xm_lt ml_90 rfl) ?_
                refine xi_iload_n (pc' := 4) (x := 6) kc_90_3 rfl rfl ?_
                refine xi_iff (pc' := 7) kc_90_4 rfl rfl ?_
                refine xi_iload_n (pc' := 8) (x := 6) kc_90_7 rfl rfl ?_
                refine xi_aload_n (pc' := 9) (x := 0) kc_90_8 rfl rfl ?_
                refine xi_getfield (pc' := 12) (v := .ref 94) kc_90_9 rfl rfl rfl A31 rfl ?_
                refine xcps4 (xk_arr K.1 xD_94) (fun y41 A41 hy41 ry41 => ?_)
                refine xi_arraylength (pc' := 13) (n := 7) (v := 7) kc_90_12 rfl (xl_lenI (by decide) (by decide) A41 hy41) rfl ?_
                refine xi_cmf (pc' := 16) kc_90_13 rfl rfl ?_
                refine xi_aload_n (pc' := 17) (x := 0) kc_90_16 rfl rfl ?_
                refine xi_getfield (pc' := 20) (v := .ref 94) kc_90_17 rfl rfl rfl A31 rfl ?_
                refine xi_iload_n (pc' := 21) (x := 6) kc_90_20 rfl rfl ?_
                refine xi_dup2 (pc' := 22) kc_90_21 rfl ⟨rfl, rfl⟩ ?_
                refine xcps4 (xj_get hy41 ry41 (i := 6) (by decide) (by decide)) (fun v42 ev42 bv42 dv42 => ?_)
                refine xi_iaload (pc' := 23) (v := v42) kc_90_22 rfl A41 (by decide) rfl (xi_in (by decide) (by rw [hy41]; decide)) ev42 ?_
                refine xi_iconst (pc' := 24) (v := 1) kc_90_23 rfl rfl ?_
                refine xcps2 (α := Int32) ((v42 : Int32) + 1) (fun v43 ev43 => ?_)
                have rv43 := xc_rng v43
                refine xi_iadd (pc' := 25) (v := v43) kc_90_24 rfl ev43 ?_
                refine xcps4 (xj_set (v := v43) hy41 ry41 6 (by first | omega | decide) (by first | omega | decide)) (fun y44 s44 hy44 ry44 => ?_)
                refine xi_iastore (pc' := 26) (x' := y44) kc_90_25 rfl A41 rfl (xi_in (by decide) (by rw [hy41]; decide)) s44 (fun hh44 eh44 => ?_)
                have K45 := xk_pa K (xk_wa rfl) xD_94 hy44 ry44 eh44
                refine xi_iload_n (pc' := 27) (x := (-6)) kc_90_26 rfl rfl ?_
                refine xi_ireturn kc_90_27 mr_90 rfl ?_
                show xw J ov (d + 1) 177 (77, [(0, .ref 0), (1, .int x1), (2, .int x2), (3, .int x3), (4, .int x4)], [.int (-6)], hh44) _
                refine xi_ireturn kc_177_77 mr_177 rfl ?_
                have zcm6 : ((-6) : Int32).toInt = (-6) := by decide
                exact kk (-6) hh44 (by omega) K45
              · refine xi_cmf (pc' := 52) kc_177_49 rfl (xc_gt_f (X := x1.toInt) (Y := 25) rfl (by decide) (by omega)) ?_
                refine xi_iload (pc' := 54) (x := x4) kc_177_52 rfl rfl ?_
                refine xi_bipush (pc' := 56) (v := 99) kc_177_54 rfl rfl ?_
                by_cases c46 : 99 < x4.toInt
                · refine xi_cmt (pc' := 71) kc_177_56 rfl (xc_gt_t (X := x4.toInt) (Y := 99) rfl (by decide) (by omega)) ?_
                  refine xi_aload_n (pc' := 72) (x := 0) kc_177_71 rfl rfl ?_
                  refine xi_bipush (pc' := 74) (v := (-6)) kc_177_72 rfl rfl ?_
                  refine xi_virtual (mj := 90) (as := [.int (-6)]) (st1 := []) (lv0 := [(0, .ref 0), (1, .int (-6))]) kc_177_74 rfl rfl rfl rfl rfl A31 (Nat.le_of_ble_eq_true rfl) (hJ _ _ _ _ (by decide)) (xm_le ml_90 rfl) rfl ?_
                  refine xi_iload_n (pc' := 1) (x := (-6)) kc_90_0 rfl rfl ?_
                  refine xi_ineg (pc' := 2) (v := 6) kc_90_1 rfl rfl ?_
                  refine xi_istore_n (pc' := 3) (lv' := [(2, .int 6), (0, .ref 0), (1, .int (-6))]) kc_90_2 rfl rfl (xm_lt ml_90 rfl) ?_
                  refine xi_iload_n (pc' := 4) (x := 6) kc_90_3 rfl rfl ?_
                  refine xi_iff (pc' := 7) kc_90_4 rfl rfl ?_
                  refine xi_iload_n (pc' := 8) (x := 6) kc_90_7 rfl rfl ?_
                  refine xi_aload_n (pc' := 9) (x := 0) kc_90_8 rfl rfl ?_
                  refine xi_getfield (pc' := 12) (v := .ref 94) kc_90_9 rfl rfl rfl A31 rfl ?_
                  refine xcps4 (xk_arr K.1 xD_94) (fun y47 A47 hy47 ry47 => ?_)
                  refine xi_arraylength (pc' := 13) (n := 7) (v := 7) kc_90_12 rfl (xl_lenI (by decide) (by decide) A47 hy47) rfl ?_
                  refine xi_cmf (pc' := 16) kc_90_13 rfl rfl ?_
                  refine xi_aload_n (pc' := 17) (x := 0) kc_90_16 rfl rfl ?_
                  refine xi_getfield (pc' := 20) (v := .ref 94) kc_90_17 rfl rfl rfl A31 rfl ?_
                  refine xi_iload_n (pc' := 21) (x := 6) kc_90_20 rfl rfl ?_
                  refine xi_dup2 (pc' := 22) kc_90_21 rfl ⟨rfl, rfl⟩ ?_
                  refine xcps4 (xj_get hy47 ry47 (i := 6) (by decide) (by decide)) (fun v48 ev48 bv48 dv48 => ?_)
                  refine xi_iaload (pc' := 23) (v := v48) kc_90_22 rfl A47 (by decide) rfl (xi_in (by decide) (by rw [hy47]; decide)) ev48 ?_
                  refine xi_iconst (pc' := 24) (v := 1) kc_90_23 rfl rfl ?_
                  refine xcps2 (α := Int32) ((v48 : Int32) + 1) (fun v49 ev49 => ?_)
                  have rv49 := xc_rng v49
                  refine xi_iadd (pc' := 25) (v := v49) kc_90_24 rfl ev49 ?_
                  refine xcps4 (xj_set (v := v49) hy47 ry47 6 (by first | omega | decide) (by first | omega | decide)) (fun y50 s50 hy50 ry50 => ?_)
                  refine xi_iastore (pc' := 26) (x' := y50) kc_90_25 rfl A47 rfl (xi_in (by decide) (by rw [hy47]; decide)) s50 (fun hh50 eh50 => ?_)
                  have K51 := xk_pa K (xk_wa rfl) xD_94 hy50 ry50 eh50
                  refine xi_iload_n (pc' := 27) (x := (-6)) kc_90_26 rfl rfl ?_
                  refine xi_ireturn kc_90_27 mr_90 rfl ?_
                  show xw J ov (d + 1) 177 (77, [(0, .ref 0), (1, .int x1), (2, .int x2), (3, .int x3), (4, .int x4)], [.int (-6)], hh50) _
                  refine xi_ireturn kc_177_77 mr_177 rfl ?_
                  have zcm6 : ((-6) : Int32).toInt = (-6) := by decide
                  exact kk (-6) hh50 (by omega) K51
                · refine xi_cmf (pc' := 59) kc_177_56 rfl (xc_gt_f (X := x4.toInt) (Y := 99) rfl (by decide) (by omega)) ?_
                  refine xi_aload_n (pc' := 60) (x := 0) kc_177_59 rfl rfl ?_
                  refine xi_getfield (pc' := 63) (v := .ref 85) kc_177_60 rfl rfl rfl A31 rfl ?_
                  refine xp_85 K.1 (fun u52 u53 bu52 bu53 A54 => ?_)
                  refine xi_getfield (pc' := 66) (v := .int u53) kc_177_63 rfl rfl rfl A54 rfl ?_
                  refine xi_bipush (pc' := 68) (v := 12) kc_177_66 rfl rfl ?_
                  by_cases c55 : u53.toInt < 12
                  · refine xi_cmt (pc' := 78) kc_177_68 rfl (xc_lt_t (X := u53.toInt) (Y := 12) rfl (by decide) (by omega)) ?_
                    refine xi_aload_n (pc' := 79) (x := 0) kc_177_78 rfl rfl ?_
                    refine xi_getfield (pc' := 82) (v := .ref 85) kc_177_79 rfl rfl rfl A31 rfl ?_
                    refine xi_iload_n (pc' := 83) (x := x1) kc_177_82 rfl rfl ?_
                    refine xi_iload_n (pc' := 84) (x := x2) kc_177_83 rfl rfl ?_
                    refine xi_iload_n (pc' := 85) (x := x3) kc_177_84 rfl rfl ?_
                    refine xi_iload (pc' := 87) (x := x4) kc_177_85 rfl rfl ?_
                    refine xi_virtual (mj := 178) (as := [.int x1, .int x2, .int x3, .int x4]) (st1 := []) (lv0 := [(0, .ref 85), (1, .int x1), (2, .int x2), (3, .int x3), (4, .int x4)]) kc_177_87 rfl rfl rfl rfl rfl A54 (Nat.le_of_ble_eq_true rfl) (hJ _ _ _ _ (by decide)) (xm_le ml_178 rfl) rfl ?_
                    refine xi_aload_n (pc' := 1) (x := 85) kc_178_0 rfl rfl ?_
                    refine xi_getfield (pc' := 4) (v := .int u53) kc_178_1 rfl rfl rfl A54 rfl ?_
                    refine xi_bipush (pc' := 6) (v := 12) kc_178_4 rfl rfl ?_
                    refine xi_cmt (pc' := 12) kc_178_6 rfl (xc_lt_t (X := u53.toInt) (Y := 12) rfl (by decide) (by omega)) ?_
                    refine xi_aload_n (pc' := 13) (x := 85) kc_178_12 rfl rfl ?_
                    refine xi_getfield (pc' := 16) (v := .ref 86) kc_178_13 rfl rfl rfl A54 rfl ?_
                    refine xi_aload_n (pc' := 17) (x := 85) kc_178_16 rfl rfl ?_
                    refine xi_getfield (pc' := 20) (v := .int u53) kc_178_17 rfl rfl rfl A54 rfl ?_
                    refine xi_iload_n (pc' := 21) (x := x1) kc_178_20 rfl rfl ?_
                    refine xcps4 (xk_arr K.1 xD_86) (fun y56 A56 hy56 ry56 => ?_)
                    refine xcps4 (xj_set (v := x1) hy56 ry56 u53 (by first | omega | decide) (by first | omega | decide)) (fun y57 s57 hy57 ry57 => ?_)
                    refine xi_iastore (pc' := 22) (x' := y57) kc_178_21 rfl A56 rfl (xi_in (by omega) (by rw [hy56]; omega)) s57 (fun hh57 eh57 => ?_)
                    have K58 := xk_pa K (xk_wa rfl) xD_86 hy57 ry57 eh57
                    refine xi_aload_n (pc' := 23) (x := 85) kc_178_22 rfl rfl ?_
                    have A59 := ((eh57.2.1 85 (by decide)).trans A54)
                    refine xi_getfield (pc' := 26) (v := .ref 87) kc_178_23 rfl rfl rfl A59 rfl ?_
                    refine xi_aload_n (pc' := 27) (x := 85) kc_178_26 rfl rfl ?_
                    refine xi_getfield (pc' := 30) (v := .int u53) kc_178_27 rfl rfl rfl A59 rfl ?_
                    refine xi_iload_n (pc' := 31) (x := x2) kc_178_30 rfl rfl ?_
                    refine xcps4 (xk_arr K58.1 xD_87) (fun y60 A60 hy60 ry60 => ?_)
                    refine xcps4 (xj_set (v := x2) hy60 ry60 u53 (by first | omega | decide) (by first | omega | decide)) (fun y61 s61 hy61 ry61 => ?_)
                    refine xi_iastore (pc' := 32) (x' := y61) kc_178_31 rfl A60 rfl (xi_in (by omega) (by rw [hy60]; omega)) s61 (fun hh61 eh61 => ?_)
                    have K62 := xk_pa K58 (xk_wa rfl) xD_87 hy61 ry61 eh61
                    refine xi_aload_n (pc' := 33) (x := 85) kc_178_32 rfl rfl ?_
                    have A63 := ((eh61.2.1 85 (by decide)).trans A59)
                    refine xi_getfield (pc' := 36) (v := .ref 88) kc_178_33 rfl rfl rfl A63 rfl ?_
                    refine xi_aload_n (pc' := 37) (x := 85) kc_178_36 rfl rfl ?_
                    refine xi_getfield (pc' := 40) (v := .int u53) kc_178_37 rfl rfl rfl A63 rfl ?_
                    refine xi_iload_n (pc' := 41) (x := x3) kc_178_40 rfl rfl ?_
                    refine xcps4 (xk_arr K62.1 xD_88) (fun y64 A64 hy64 ry64 => ?_)
                    refine xcps4 (xj_set (v := x3) hy64 ry64 u53 (by first | omega | decide) (by first | omega | decide)) (fun y65 s65 hy65 ry65 => ?_)
                    refine xi_iastore (pc' := 42) (x' := y65) kc_178_41 rfl A64 rfl (xi_in (by omega) (by rw [hy64]; omega)) s65 (fun hh65 eh65 => ?_)
                    have K66 := xk_pa K62 (xk_wa rfl) xD_88 hy65 ry65 eh65
                    refine xi_aload_n (pc' := 43) (x := 85) kc_178_42 rfl rfl ?_
                    have A67 := ((eh65.2.1 85 (by decide)).trans A63)
                    refine xi_getfield (pc' := 46) (v := .ref 89) kc_178_43 rfl rfl rfl A67 rfl ?_
                    refine xi_aload_n (pc' := 47) (x := 85) kc_178_46 rfl rfl ?_
                    refine xi_getfield (pc' := 50) (v := .int u53) kc_178_47 rfl rfl rfl A67 rfl ?_
                    refine xi_iload (pc' := 52) (x := x4) kc_178_50 rfl rfl ?_
                    refine xcps4 (xk_arr K66.1 xD_89) (fun y68 A68 hy68 ry68 => ?_)
                    refine xcps4 (xj_set (v := x4) hy68 ry68 u53 (by first | omega | decide) (by first | omega | decide)) (fun y69 s69 hy69 ry69 => ?_)
                    refine xi_iastore (pc' := 53) (x' := y69) kc_178_52 rfl A68 rfl (xi_in (by omega) (by rw [hy68]; omega)) s69 (fun hh69 eh69 => ?_)
                    have K70 := xk_pa K66 (xk_wa rfl) xD_89 hy69 ry69 eh69
                    refine xi_aload_n (pc' := 54) (x := 85) kc_178_53 rfl rfl ?_
                    refine xi_dup (pc' := 55) kc_178_54 rfl rfl ?_
                    have A71 := ((eh69.2.1 85 (by decide)).trans A67)
                    refine xi_getfield (pc' := 58) (v := .int u53) kc_178_55 rfl rfl rfl A71 rfl ?_
                    refine xi_iconst (pc' := 59) (v := 1) kc_178_58 rfl rfl ?_
                    refine xcps2 (α := Int32) (u53 + 1) (fun v72 ev72 => ?_)
                    have zv72 : v72.toInt = (u53.toInt + 1) := by rw [← ev72]; exact (xz_add (X := u53.toInt) (Y := 1) rfl (by decide) (by omega) (by omega)).trans (by omega)
                    refine xi_iadd (pc' := 60) (v := v72) kc_178_59 rfl ev72 ?_
                    refine xi_putfield (pc' := 63) (fs' := [.ref 86, .ref 87, .ref 88, .ref 89, .ref 90, .ref 91, .ref 92, .int u52, .int v72]) kc_178_60 rfl rfl rfl A71 rfl rfl rfl (Nat.le_of_ble_eq_true rfl) rfl (fun hh74 eh73 => ?_)
                    have K75 := xk_pf (k := 8) (v := v72) K70 (xk_wf rfl) xD_85 A71 rfl (by first | omega | decide) (by first | omega | decide) eh73 rfl
                    refine xi_aload_n (pc' := 64) (x := 85) kc_178_63 rfl rfl ?_
                    refine xi_getfield (pc' := 67) (v := .int v72) kc_178_64 rfl rfl rfl eh73.1 rfl ?_
                    refine xi_iconst (pc' := 68) (v := 1) kc_178_67 rfl rfl ?_
                    refine xcps2 (α := Int32) (v72 - 1) (fun v76 ev76 => ?_)
                    have zv76 : v76.toInt = u53.toInt := by rw [← ev76]; exact (xz_sub (X := (u53.toInt + 1)) (Y := 1) zv72 (by decide) (by omega) (by omega)).trans (by omega)
                    refine xi_isub (pc' := 69) (v := v76) kc_178_68 rfl ev76 ?_
                    refine xi_ireturn kc_178_69 mr_178 rfl ?_
                    show xw J ov (d + 1) 177 (90, [(0, .ref 0), (1, .int x1), (2, .int x2), (3, .int x3), (4, .int x4)], [.int v76], hh74) _
                    refine xi_ireturn kc_177_90 mr_177 rfl ?_
                    exact kk v76 hh74 (by omega) K75
                  · refine xi_cmf (pc' := 71) kc_177_68 rfl (xc_lt_f (X := u53.toInt) (Y := 12) rfl (by decide) (by omega)) ?_
                    refine xi_aload_n (pc' := 72) (x := 0) kc_177_71 rfl rfl ?_
                    refine xi_bipush (pc' := 74) (v := (-6)) kc_177_72 rfl rfl ?_
                    refine xi_virtual (mj := 90) (as := [.int (-6)]) (st1 := []) (lv0 := [(0, .ref 0), (1, .int (-6))]) kc_177_74 rfl rfl rfl rfl rfl A31 (Nat.le_of_ble_eq_true rfl) (hJ _ _ _ _ (by decide)) (xm_le ml_90 rfl) rfl ?_
                    refine xi_iload_n (pc' := 1) (x := (-6)) kc_90_0 rfl rfl ?_
                    refine xi_ineg (pc' := 2) (v := 6) kc_90_1 rfl rfl ?_
                    refine xi_istore_n (pc' := 3) (lv' := [(2, .int 6), (0, .ref 0), (1, .int (-6))]) kc_90_2 rfl rfl (xm_lt ml_90 rfl) ?_
                    refine xi_iload_n (pc' := 4) (x := 6) kc_90_3 rfl rfl ?_
                    refine xi_iff (pc' := 7) kc_90_4 rfl rfl ?_
                    refine xi_iload_n (pc' := 8) (x := 6) kc_90_7 rfl rfl ?_
                    refine xi_aload_n (pc' := 9) (x := 0) kc_90_8 rfl rfl ?_
                    refine xi_getfield (pc' := 12) (v := .ref 94) kc_90_9 rfl rfl rfl A31 rfl ?_
                    refine xcps4 (xk_arr K.1 xD_94) (fun y77 A77 hy77 ry77 => ?_)
                    refine xi_arraylength (pc' := 13) (n := 7) (v := 7) kc_90_12 rfl (xl_lenI (by decide) (by decide) A77 hy77) rfl ?_
                    refine xi_cmf (pc' := 16) kc_90_13 rfl rfl ?_
                    refine xi_aload_n (pc' := 17) (x := 0) kc_90_16 rfl rfl ?_
                    refine xi_getfield (pc' := 20) (v := .ref 94) kc_90_17 rfl rfl rfl A31 rfl ?_
                    refine xi_iload_n (pc' := 21) (x := 6) kc_90_20 rfl rfl ?_
                    refine xi_dup2 (pc' := 22) kc_90_21 rfl ⟨rfl, rfl⟩ ?_
                    refine xcps4 (xj_get hy77 ry77 (i := 6) (by decide) (by decide)) (fun v78 ev78 bv78 dv78 => ?_)
                    refine xi_iaload (pc' := 23) (v := v78) kc_90_22 rfl A77 (by decide) rfl (xi_in (by decide) (by rw [hy77]; decide)) ev78 ?_
                    refine xi_iconst (pc' := 24) (v := 1) kc_90_23 rfl rfl ?_
                    refine xcps2 (α := Int32) ((v78 : Int32) + 1) (fun v79 ev79 => ?_)
                    have rv79 := xc_rng v79
                    refine xi_iadd (pc' := 25) (v := v79) kc_90_24 rfl ev79 ?_
                    refine xcps4 (xj_set (v := v79) hy77 ry77 6 (by first | omega | decide) (by first | omega | decide)) (fun y80 s80 hy80 ry80 => ?_)
                    refine xi_iastore (pc' := 26) (x' := y80) kc_90_25 rfl A77 rfl (xi_in (by decide) (by rw [hy77]; decide)) s80 (fun hh80 eh80 => ?_)
                    have K81 := xk_pa K (xk_wa rfl) xD_94 hy80 ry80 eh80
                    refine xi_iload_n (pc' := 27) (x := (-6)) kc_90_26 rfl rfl ?_
                    refine xi_ireturn kc_90_27 mr_90 rfl ?_
                    show xw J ov (d + 1) 177 (77, [(0, .ref 0), (1, .int x1), (2, .int x2), (3, .int x3), (4, .int x4)], [.int (-6)], hh80) _
                    refine xi_ireturn kc_177_77 mr_177 rfl ?_
                    have zcm6 : ((-6) : Int32).toInt = (-6) := by decide
                    exact kk (-6) hh80 (by omega) K81
            · refine xi_iff (pc' := 39) kc_177_36 rfl (xc_ge_f (X := x4.toInt) (Y := 0) rfl (by decide) (by omega)) ?_
              refine xi_aload_n (pc' := 40) (x := 0) kc_177_39 rfl rfl ?_
              refine xi_bipush (pc' := 42) (v := (-4)) kc_177_40 rfl rfl ?_
              refine xi_virtual (mj := 90) (as := [.int (-4)]) (st1 := []) (lv0 := [(0, .ref 0), (1, .int (-4))]) kc_177_42 rfl rfl rfl rfl rfl A31 (Nat.le_of_ble_eq_true rfl) (hJ _ _ _ _ (by decide)) (xm_le ml_90 rfl) rfl ?_
              refine xi_iload_n (pc' := 1) (x := (-4)) kc_90_0 rfl rfl ?_
              refine xi_ineg (pc' := 2) (v := 4) kc_90_1 rfl rfl ?_
              refine xi_istore_n (pc' := 3) (lv' := [(2, .int 4), (0, .ref 0), (1, .int (-4))]) kc_90_2 rfl rfl (xm_lt ml_90 rfl) ?_
              refine xi_iload_n (pc' := 4) (x := 4) kc_90_3 rfl rfl ?_
              refine xi_iff (pc' := 7) kc_90_4 rfl rfl ?_
              refine xi_iload_n (pc' := 8) (x := 4) kc_90_7 rfl rfl ?_
              refine xi_aload_n (pc' := 9) (x := 0) kc_90_8 rfl rfl ?_
              refine xi_getfield (pc' := 12) (v := .ref 94) kc_90_9 rfl rfl rfl A31 rfl ?_
              refine xcps4 (xk_arr K.1 xD_94) (fun y82 A82 hy82 ry82 => ?_)
              refine xi_arraylength (pc' := 13) (n := 7) (v := 7) kc_90_12 rfl (xl_lenI (by decide) (by decide) A82 hy82) rfl ?_
              refine xi_cmf (pc' := 16) kc_90_13 rfl rfl ?_
              refine xi_aload_n (pc' := 17) (x := 0) kc_90_16 rfl rfl ?_
              refine xi_getfield (pc' := 20) (v := .ref 94) kc_90_17 rfl rfl rfl A31 rfl ?_
              refine xi_iload_n (pc' := 21) (x := 4) kc_90_20 rfl rfl ?_
              refine xi_dup2 (pc' := 22) kc_90_21 rfl ⟨rfl, rfl⟩ ?_
              refine xcps4 (xj_get hy82 ry82 (i := 4) (by decide) (by decide)) (fun v83 ev83 bv83 dv83 => ?_)
              refine xi_iaload (pc' := 23) (v := v83) kc_90_22 rfl A82 (by decide) rfl (xi_in (by decide) (by rw [hy82]; decide)) ev83 ?_
              refine xi_iconst (pc' := 24) (v := 1) kc_90_23 rfl rfl ?_
              refine xcps2 (α := Int32) ((v83 : Int32) + 1) (fun v84 ev84 => ?_)
              have rv84 := xc_rng v84
              refine xi_iadd (pc' := 25) (v := v84) kc_90_24 rfl ev84 ?_
              refine xcps4 (xj_set (v := v84) hy82 ry82 4 (by first | omega | decide) (by first | omega | decide)) (fun y85 s85 hy85 ry85 => ?_)
              refine xi_iastore (pc' := 26) (x' := y85) kc_90_25 rfl A82 rfl (xi_in (by decide) (by rw [hy82]; decide)) s85 (fun hh85 eh85 => ?_)
              have K86 := xk_pa K (xk_wa rfl) xD_94 hy85 ry85 eh85
              refine xi_iload_n (pc' := 27) (x := (-4)) kc_90_26 rfl rfl ?_
              refine xi_ireturn kc_90_27 mr_90 rfl ?_
              show xw J ov (d + 1) 177 (45, [(0, .ref 0), (1, .int x1), (2, .int x2), (3, .int x3), (4, .int x4)], [.int (-4)], hh85) _
              refine xi_ireturn kc_177_45 mr_177 rfl ?_
              have zcm4 : ((-4) : Int32).toInt = (-4) := by decide
              exact kk (-4) hh85 (by omega) K86
        · refine xi_cmf (pc' := 16) kc_177_13 rfl (xc_le_f (X := x3.toInt) (Y := 1) rfl (by decide) (by omega)) ?_
          refine xi_aload_n (pc' := 17) (x := 0) kc_177_16 rfl rfl ?_
          refine xi_bipush (pc' := 19) (v := (-2)) kc_177_17 rfl rfl ?_
          refine xp_0 K.1 (fun u87 u88 bu87 bu88 A89 => ?_)
          refine xi_virtual (mj := 90) (as := [.int (-2)]) (st1 := []) (lv0 := [(0, .ref 0), (1, .int (-2))]) kc_177_19 rfl rfl rfl rfl rfl A89 (Nat.le_of_ble_eq_true rfl) (hJ _ _ _ _ (by decide)) (xm_le ml_90 rfl) rfl ?_
          refine xi_iload_n (pc' := 1) (x := (-2)) kc_90_0 rfl rfl ?_
          refine xi_ineg (pc' := 2) (v := 2) kc_90_1 rfl rfl ?_
          refine xi_istore_n (pc' := 3) (lv' := [(2, .int 2), (0, .ref 0), (1, .int (-2))]) kc_90_2 rfl rfl (xm_lt ml_90 rfl) ?_
          refine xi_iload_n (pc' := 4) (x := 2) kc_90_3 rfl rfl ?_
          refine xi_iff (pc' := 7) kc_90_4 rfl rfl ?_
          refine xi_iload_n (pc' := 8) (x := 2) kc_90_7 rfl rfl ?_
          refine xi_aload_n (pc' := 9) (x := 0) kc_90_8 rfl rfl ?_
          refine xi_getfield (pc' := 12) (v := .ref 94) kc_90_9 rfl rfl rfl A89 rfl ?_
          refine xcps4 (xk_arr K.1 xD_94) (fun y90 A90 hy90 ry90 => ?_)
          refine xi_arraylength (pc' := 13) (n := 7) (v := 7) kc_90_12 rfl (xl_lenI (by decide) (by decide) A90 hy90) rfl ?_
          refine xi_cmf (pc' := 16) kc_90_13 rfl rfl ?_
          refine xi_aload_n (pc' := 17) (x := 0) kc_90_16 rfl rfl ?_
          refine xi_getfield (pc' := 20) (v := .ref 94) kc_90_17 rfl rfl rfl A89 rfl ?_
          refine xi_iload_n (pc' := 21) (x := 2) kc_90_20 rfl rfl ?_
          refine xi_dup2 (pc' := 22) kc_90_21 rfl ⟨rfl, rfl⟩ ?_
          refine xcps4 (xj_get hy90 ry90 (i := 2) (by decide) (by decide)) (fun v91 ev91 bv91 dv91 => ?_)
          refine xi_iaload (pc' := 23) (v := v91) kc_90_22 rfl A90 (by decide) rfl (xi_in (by decide) (by rw [hy90]; decide)) ev91 ?_
          refine xi_iconst (pc' := 24) (v := 1) kc_90_23 rfl rfl ?_
          refine xcps2 (α := Int32) ((v91 : Int32) + 1) (fun v92 ev92 => ?_)
          have rv92 := xc_rng v92
          refine xi_iadd (pc' := 25) (v := v92) kc_90_24 rfl ev92 ?_
          refine xcps4 (xj_set (v := v92) hy90 ry90 2 (by first | omega | decide) (by first | omega | decide)) (fun y93 s93 hy93 ry93 => ?_)
          refine xi_iastore (pc' := 26) (x' := y93) kc_90_25 rfl A90 rfl (xi_in (by decide) (by rw [hy90]; decide)) s93 (fun hh93 eh93 => ?_)
          have K94 := xk_pa K (xk_wa rfl) xD_94 hy93 ry93 eh93
          refine xi_iload_n (pc' := 27) (x := (-2)) kc_90_26 rfl rfl ?_
          refine xi_ireturn kc_90_27 mr_90 rfl ?_
          show xw J ov (d + 1) 177 (22, [(0, .ref 0), (1, .int x1), (2, .int x2), (3, .int x3), (4, .int x4)], [.int (-2)], hh93) _
          refine xi_ireturn kc_177_22 mr_177 rfl ?_
          have zcm2 : ((-2) : Int32).toInt = (-2) := by decide
          exact kk (-2) hh93 (by omega) K94
set_option maxHeartbeats 4000000 in
theorem mt_179_0 {J : xe_J} {ov : List (List Int32)} (hJ : ∀ d mj as h, mj ≠ xe_loff → J d mj as h = none) (hov1 : ov[1]? = some [10, 0, 0, 0, 0, 0]) (hov2 : ov[2]? = some [99, 30, 50, 50, 1, 99999]) {d : Nat} {Q : Option Value → xe_H → Prop} {h : xe_H} {x1 : Int32} (T : xt h) (b1 : (0 ≤ x1.toInt ∧ x1.toInt ≤ 1)) (kk : (∀ (r : Int32) (h' : xe_H), (0 ≤ r.toInt ∧ r.toInt ≤ 1) → xk [(0, 9), (115, 1), (83, 0), (29, 0), (31, 0), (33, 0), (35, 0), (37, 0), (39, 0), (41, 0), (43, 0), (45, 0), (47, 0), (49, 0), (51, 0), (125, 0), (66, 8), (115, 18), (71, 0), (132, 0)] h h' → Q (some (.int r)) h')) : xw J ov (d + 1) 179 (0, [(0, .ref 0), (1, .int x1)], [], h) Q := by
  have K : xk [(0, 9), (115, 1), (83, 0), (29, 0), (31, 0), (33, 0), (35, 0), (37, 0), (39, 0), (41, 0), (43, 0), (45, 0), (47, 0), (49, 0), (51, 0), (125, 0), (66, 8), (115, 18), (71, 0), (132, 0)] h h := xk_re T
  refine xi_aload_n (pc' := 1) (x := 0) kc_179_0 rfl rfl ?_
  refine xp_0 K.1 (fun u1 u2 bu1 bu2 A3 => ?_)
  refine xi_getfield (pc' := 4) (v := .ref 85) kc_179_1 rfl rfl rfl A3 rfl ?_
  refine xp_85 K.1 (fun u4 u5 bu4 bu5 A6 => ?_)
  refine xi_getfield (pc' := 7) (v := .int u4) kc_179_4 rfl rfl rfl A6 rfl ?_
  refine xi_iload_n (pc' := 8) (x := x1) kc_179_7 rfl rfl ?_
  by_cases c7 : u4.toInt = x1.toInt
  · refine xi_cmf (pc' := 11) kc_179_8 rfl (xc_ne_f (X := u4.toInt) (Y := x1.toInt) rfl rfl (by omega)) ?_
    refine xi_iconst (pc' := 12) (v := 0) kc_179_11 rfl rfl ?_
    refine xi_ireturn kc_179_12 mr_179 rfl ?_
    have zc0 : (0 : Int32).toInt = 0 := by decide
    exact kk 0 h (by omega) K
  · refine xi_cmt (pc' := 13) kc_179_8 rfl (xc_ne_t (X := u4.toInt) (Y := x1.toInt) rfl rfl (by omega)) ?_
    refine xi_aload_n (pc' := 14) (x := 0) kc_179_13 rfl rfl ?_
    refine xi_getfield (pc' := 17) (v := .ref 85) kc_179_14 rfl rfl rfl A3 rfl ?_
    refine xi_iload_n (pc' := 18) (x := x1) kc_179_17 rfl rfl ?_
    by_cases c8 : x1.toInt = 0
    · have qx1 : x1 = 0 := xc_of (Eq.trans (by omega) (show (0 : Int) = (0 : Int32).toInt by decide))
      subst qx1
      refine xi_putfield (pc' := 21) (fs' := [.ref 86, .ref 87, .ref 88, .ref 89, .ref 90, .ref 91, .ref 92, .int 0, .int u5]) kc_179_18 rfl rfl rfl A6 rfl rfl rfl (Nat.le_of_ble_eq_true rfl) rfl (fun hh10 eh9 => ?_)
      have K11 := xk_pf (k := 7) (v := 0) K (xk_wf rfl) xD_85 A6 rfl (by first | omega | decide) (by first | omega | decide) eh9 rfl
      refine xi_iconst (pc' := 22) (v := 1) kc_179_21 rfl rfl ?_
      refine xi_ireturn kc_179_22 mr_179 rfl ?_
      have zc1 : (1 : Int32).toInt = 1 := by decide
      exact kk 1 hh10 (by omega) K11
    have qx1 : x1 = 1 := xc_of (Eq.trans (by omega) (show (1 : Int) = (1 : Int32).toInt by decide))
    subst qx1
    refine xi_putfield (pc' := 21) (fs' := [.ref 86, .ref 87, .ref 88, .ref 89, .ref 90, .ref 91, .ref 92, .int 1, .int u5]) kc_179_18 rfl rfl rfl A6 rfl rfl rfl (Nat.le_of_ble_eq_true rfl) rfl (fun hh13 eh12 => ?_)
    have K14 := xk_pf (k := 7) (v := 1) K (xk_wf rfl) xD_85 A6 rfl (by first | omega | decide) (by first | omega | decide) eh12 rfl
    refine xi_iconst (pc' := 22) (v := 1) kc_179_21 rfl rfl ?_
    refine xi_ireturn kc_179_22 mr_179 rfl ?_
    have zc1 : (1 : Int32).toInt = 1 := by decide
    exact kk 1 hh13 (by omega) K14
set_option maxHeartbeats 4000000 in
theorem lp_19_0 {J : xe_J} {ov : List (List Int32)} (hJ : ∀ d mj as h, mj ≠ xe_loff → J d mj as h = none) (hov1 : ov[1]? = some [10, 0, 0, 0, 0, 0]) (hov2 : ov[2]? = some [99, 30, 50, 50, 1, 99999]) {d : Nat} {Q : Option Value → xe_H → Prop} {hb : xe_H} (kk : (∀ (r : Int32) (h' : xe_H), xk [(0, 9), (115, 1), (83, 0), (29, 0), (31, 0), (33, 0), (35, 0), (37, 0), (39, 0), (41, 0), (43, 0), (45, 0), (47, 0), (49, 0), (51, 0), (125, 0), (66, 8), (115, 18), (71, 0), (132, 0)] hb h' → Q (some (.int r)) h')) : ∀ m : Nat, (∀ (x2 : Int32) (h : xe_H), ((-1) ≤ x2.toInt ∧ x2.toInt ≤ 599) → xk [(0, 9), (115, 1), (83, 0), (29, 0), (31, 0), (33, 0), (35, 0), (37, 0), (39, 0), (41, 0), (43, 0), (45, 0), (47, 0), (49, 0), (51, 0), (125, 0), (66, 8), (115, 18), (71, 0), (132, 0)] hb h → (1) * x2.toInt + 1 < (m : Int) → xw J ov (d + 1) 19 (15, [(0, .ref 115), (2, .int x2)], [], h) Q) := by
  intro m
  induction m with
  | zero =>
    intro x2 h b2 K hm; exfalso; omega
  | succ m ih =>
    have i0 := ih
    intro x2 h b2 K hm
    refine xi_iload_n (pc' := 16) (x := x2) kc_19_15 rfl rfl ?_
    by_cases c1 : x2.toInt < 0
    · refine xi_ift (pc' := 43) kc_19_16 rfl (xc_lt_t (X := x2.toInt) (Y := 0) rfl (by decide) (by omega)) ?_
      refine xi_iconst (pc' := 44) (v := 5) kc_19_43 rfl rfl ?_
      refine xi_ireturn kc_19_44 mr_19 rfl ?_
      have zc5 : (5 : Int32).toInt = 5 := by decide
      exact kk 5 h K
    · refine xi_iff (pc' := 19) kc_19_16 rfl (xc_lt_f (X := x2.toInt) (Y := 0) rfl (by decide) (by omega)) ?_
      refine xi_aload_n (pc' := 20) (x := 115) kc_19_19 rfl rfl ?_
      refine xp_115 K.1 (fun u2 u3 u4 u5 u6 u7 u8 u9 u10 u11 u12 u13 u14 bu2 bu3 bu4 bu5 bu6 bu7 bu8 bu9 bu10 bu11 bu12 bu13 bu14 A15 => ?_)
      refine xi_getfield (pc' := 23) (v := .ref 123) kc_19_20 rfl rfl rfl A15 rfl ?_
      refine xi_iload_n (pc' := 24) (x := x2) kc_19_23 rfl rfl ?_
      refine xcps4 (xk_arr K.1 xD_123) (fun y16 A16 hy16 ry16 => ?_)
      refine xcps4 (xj_get hy16 ry16 (i := x2) (by omega) (by omega)) (fun v17 ev17 bv17 dv17 => ?_)
      refine xi_iaload (pc' := 25) (v := v17) kc_19_24 rfl A16 (by decide) rfl (xi_in (by omega) (by rw [hy16]; omega)) ev17 ?_
      refine xi_bipush (pc' := 27) (v := 99) kc_19_25 rfl rfl ?_
      by_cases c18 : v17.toInt = 99
      · refine xi_cmt (pc' := 37) kc_19_27 rfl (xc_eq_t (X := v17.toInt) (Y := 99) rfl (by decide) (by omega)) ?_
        refine xcps2 (α := Int32) (x2 + (-1)) (fun v19 ev19 => ?_)
        have zv19 : v19.toInt = (x2.toInt + (-1)) := by rw [← ev19]; exact (xz_add (X := x2.toInt) (Y := (-1)) rfl (by decide) (by omega) (by omega)).trans (by omega)
        refine xi_iinc (pc' := 40) (x := x2) (v := v19) (lv' := [(2, .int v19), (0, .ref 115)]) kc_19_37 rfl rfl ev19 rfl (xm_lt ml_19 rfl) ?_
        refine xi_goto (pc' := 15) kc_19_40 rfl ?_
        refine xw_lv (b := [(0, .ref 115), (2, .int v19)]) (lvS_cons (lvS_cons (lvS_nil (show ([2, 0] : List Nat).Nodup by decide)) rfl) rfl) ?_
        exact i0 v19 h (by omega) K (by omega)
      · refine xi_cmf (pc' := 30) kc_19_27 rfl (xc_eq_f (X := v17.toInt) (Y := 99) rfl (by decide) (by omega)) ?_
        refine xi_aload_n (pc' := 31) (x := 115) kc_19_30 rfl rfl ?_
        refine xi_getfield (pc' := 34) (v := .ref 123) kc_19_31 rfl rfl rfl A15 rfl ?_
        refine xi_iload_n (pc' := 35) (x := x2) kc_19_34 rfl rfl ?_
        refine xi_iaload (pc' := 36) (v := v17) kc_19_35 rfl A16 (by decide) rfl (xi_in (by omega) (by rw [hy16]; omega)) ev17 ?_
        refine xi_ireturn kc_19_36 mr_19 rfl ?_
        exact kk v17 h K
set_option maxHeartbeats 4000000 in
theorem mt_19_0 {J : xe_J} {ov : List (List Int32)} (hJ : ∀ d mj as h, mj ≠ xe_loff → J d mj as h = none) (hov1 : ov[1]? = some [10, 0, 0, 0, 0, 0]) (hov2 : ov[2]? = some [99, 30, 50, 50, 1, 99999]) {d : Nat} {Q : Option Value → xe_H → Prop} {h : xe_H} {x1 : Int32} (T : xt h) (b1 : (0 ≤ x1.toInt ∧ x1.toInt ≤ 600)) (kk : (∀ (r : Int32) (h' : xe_H), xk [(0, 9), (115, 1), (83, 0), (29, 0), (31, 0), (33, 0), (35, 0), (37, 0), (39, 0), (41, 0), (43, 0), (45, 0), (47, 0), (49, 0), (51, 0), (125, 0), (66, 8), (115, 18), (71, 0), (132, 0)] h h' → Q (some (.int r)) h')) : xw J ov (d + 1) 19 (0, [(0, .ref 115), (1, .int x1)], [], h) Q := by
  have K : xk [(0, 9), (115, 1), (83, 0), (29, 0), (31, 0), (33, 0), (35, 0), (37, 0), (39, 0), (41, 0), (43, 0), (45, 0), (47, 0), (49, 0), (51, 0), (125, 0), (66, 8), (115, 18), (71, 0), (132, 0)] h h := xk_re T
  refine xi_iload_n (pc' := 1) (x := x1) kc_19_0 rfl rfl ?_
  refine xi_sipush (pc' := 4) (v := 599) kc_19_1 rfl rfl ?_
  by_cases c1 : 599 ≤ x1.toInt
  · refine xi_cmt (pc' := 11) kc_19_4 rfl (xc_ge_t (X := x1.toInt) (Y := 599) rfl (by decide) (by omega)) ?_
    refine xi_sipush (pc' := 14) (v := 599) kc_19_11 rfl rfl ?_
    refine xi_istore_n (pc' := 15) (lv' := [(2, .int 599), (0, .ref 115), (1, .int x1)]) kc_19_14 rfl rfl (xm_lt ml_19 rfl) ?_
    have zc599 : (599 : Int32).toInt = 599 := by decide
    refine xw_lv (b := [(0, .ref 115), (2, .int 599)]) (lvS_cons (lvS_cons (lvS_nil (show ([2, 0, 1] : List Nat).Nodup by decide)) rfl) rfl) ?_
    exact (lp_19_0 hJ hov1 hov2 (d := d) (hb := h) (fun r9 h9 K9 => kk r9 h9 (xk_tr K K9 rfl)) 601) 599 h (by omega) (xk_re K.1) (by omega)
  · refine xi_cmf (pc' := 7) kc_19_4 rfl (xc_ge_f (X := x1.toInt) (Y := 599) rfl (by decide) (by omega)) ?_
    refine xi_iload_n (pc' := 8) (x := x1) kc_19_7 rfl rfl ?_
    refine xi_goto (pc' := 14) kc_19_8 rfl ?_
    refine xi_istore_n (pc' := 15) (lv' := [(2, .int x1), (0, .ref 115), (1, .int x1)]) kc_19_14 rfl rfl (xm_lt ml_19 rfl) ?_
    refine xw_lv (b := [(0, .ref 115), (2, .int x1)]) (lvS_cons (lvS_cons (lvS_nil (show ([2, 0, 1] : List Nat).Nodup by decide)) rfl) rfl) ?_
    exact (lp_19_0 hJ hov1 hov2 (d := d) (hb := h) (fun r9 h9 K9 => kk r9 h9 (xk_tr K K9 rfl)) 601) x1 h (by omega) (xk_re K.1) (by omega)
set_option maxHeartbeats 4000000 in
theorem lp_20_0 {J : xe_J} {ov : List (List Int32)} (hJ : ∀ d mj as h, mj ≠ xe_loff → J d mj as h = none) (hov1 : ov[1]? = some [10, 0, 0, 0, 0, 0]) (hov2 : ov[2]? = some [99, 30, 50, 50, 1, 99999]) {d : Nat} {Q : Option Value → xe_H → Prop} {hb : xe_H} (kk : (∀ (r : Int32) (h' : xe_H), xk [(0, 9), (115, 1), (83, 0), (29, 0), (31, 0), (33, 0), (35, 0), (37, 0), (39, 0), (41, 0), (43, 0), (45, 0), (47, 0), (49, 0), (51, 0), (125, 0), (66, 8), (115, 18), (71, 0), (132, 0)] hb h' → Q (some (.int r)) h')) : ∀ m : Nat, (∀ (x2 : Int32) (h : xe_H), ((-1) ≤ x2.toInt ∧ x2.toInt ≤ 599) → xk [(0, 9), (115, 1), (83, 0), (29, 0), (31, 0), (33, 0), (35, 0), (37, 0), (39, 0), (41, 0), (43, 0), (45, 0), (47, 0), (49, 0), (51, 0), (125, 0), (66, 8), (115, 18), (71, 0), (132, 0)] hb h → (1) * x2.toInt + 1 < (m : Int) → xw J ov (d + 1) 20 (15, [(0, .ref 115), (2, .int x2)], [], h) Q) := by
  intro m
  induction m with
  | zero =>
    intro x2 h b2 K hm; exfalso; omega
  | succ m ih =>
    have i0 := ih
    intro x2 h b2 K hm
    refine xi_iload_n (pc' := 16) (x := x2) kc_20_15 rfl rfl ?_
    by_cases c1 : x2.toInt < 0
    · refine xi_ift (pc' := 43) kc_20_16 rfl (xc_lt_t (X := x2.toInt) (Y := 0) rfl (by decide) (by omega)) ?_
      refine xi_iconst (pc' := 44) (v := 0) kc_20_43 rfl rfl ?_
      refine xi_ireturn kc_20_44 mr_20 rfl ?_
      have zc0 : (0 : Int32).toInt = 0 := by decide
      exact kk 0 h K
    · refine xi_iff (pc' := 19) kc_20_16 rfl (xc_lt_f (X := x2.toInt) (Y := 0) rfl (by decide) (by omega)) ?_
      refine xi_aload_n (pc' := 20) (x := 115) kc_20_19 rfl rfl ?_
      refine xp_115 K.1 (fun u2 u3 u4 u5 u6 u7 u8 u9 u10 u11 u12 u13 u14 bu2 bu3 bu4 bu5 bu6 bu7 bu8 bu9 bu10 bu11 bu12 bu13 bu14 A15 => ?_)
      refine xi_getfield (pc' := 23) (v := .ref 124) kc_20_20 rfl rfl rfl A15 rfl ?_
      refine xi_iload_n (pc' := 24) (x := x2) kc_20_23 rfl rfl ?_
      refine xcps4 (xk_arr K.1 xD_124) (fun y16 A16 hy16 ry16 => ?_)
      refine xcps4 (xj_get hy16 ry16 (i := x2) (by omega) (by omega)) (fun v17 ev17 bv17 dv17 => ?_)
      refine xi_iaload (pc' := 25) (v := v17) kc_20_24 rfl A16 (by decide) rfl (xi_in (by omega) (by rw [hy16]; omega)) ev17 ?_
      refine xi_bipush (pc' := 27) (v := 99) kc_20_25 rfl rfl ?_
      by_cases c18 : v17.toInt = 99
      · refine xi_cmt (pc' := 37) kc_20_27 rfl (xc_eq_t (X := v17.toInt) (Y := 99) rfl (by decide) (by omega)) ?_
        refine xcps2 (α := Int32) (x2 + (-1)) (fun v19 ev19 => ?_)
        have zv19 : v19.toInt = (x2.toInt + (-1)) := by rw [← ev19]; exact (xz_add (X := x2.toInt) (Y := (-1)) rfl (by decide) (by omega) (by omega)).trans (by omega)
        refine xi_iinc (pc' := 40) (x := x2) (v := v19) (lv' := [(2, .int v19), (0, .ref 115)]) kc_20_37 rfl rfl ev19 rfl (xm_lt ml_20 rfl) ?_
        refine xi_goto (pc' := 15) kc_20_40 rfl ?_
        refine xw_lv (b := [(0, .ref 115), (2, .int v19)]) (lvS_cons (lvS_cons (lvS_nil (show ([2, 0] : List Nat).Nodup by decide)) rfl) rfl) ?_
        exact i0 v19 h (by omega) K (by omega)
      · refine xi_cmf (pc' := 30) kc_20_27 rfl (xc_eq_f (X := v17.toInt) (Y := 99) rfl (by decide) (by omega)) ?_
        refine xi_aload_n (pc' := 31) (x := 115) kc_20_30 rfl rfl ?_
        refine xi_getfield (pc' := 34) (v := .ref 124) kc_20_31 rfl rfl rfl A15 rfl ?_
        refine xi_iload_n (pc' := 35) (x := x2) kc_20_34 rfl rfl ?_
        refine xi_iaload (pc' := 36) (v := v17) kc_20_35 rfl A16 (by decide) rfl (xi_in (by omega) (by rw [hy16]; omega)) ev17 ?_
        refine xi_ireturn kc_20_36 mr_20 rfl ?_
        exact kk v17 h K
set_option maxHeartbeats 4000000 in
theorem mt_20_0 {J : xe_J} {ov : List (List Int32)} (hJ : ∀ d mj as h, mj ≠ xe_loff → J d mj as h = none) (hov1 : ov[1]? = some [10, 0, 0, 0, 0, 0]) (hov2 : ov[2]? = some [99, 30, 50, 50, 1, 99999]) {d : Nat} {Q : Option Value → xe_H → Prop} {h : xe_H} {x1 : Int32} (T : xt h) (b1 : (0 ≤ x1.toInt ∧ x1.toInt ≤ 599)) (kk : (∀ (r : Int32) (h' : xe_H), xk [(0, 9), (115, 1), (83, 0), (29, 0), (31, 0), (33, 0), (35, 0), (37, 0), (39, 0), (41, 0), (43, 0), (45, 0), (47, 0), (49, 0), (51, 0), (125, 0), (66, 8), (115, 18), (71, 0), (132, 0)] h h' → Q (some (.int r)) h')) : xw J ov (d + 1) 20 (0, [(0, .ref 115), (1, .int x1)], [], h) Q := by
  have K : xk [(0, 9), (115, 1), (83, 0), (29, 0), (31, 0), (33, 0), (35, 0), (37, 0), (39, 0), (41, 0), (43, 0), (45, 0), (47, 0), (49, 0), (51, 0), (125, 0), (66, 8), (115, 18), (71, 0), (132, 0)] h h := xk_re T
  refine xi_iload_n (pc' := 1) (x := x1) kc_20_0 rfl rfl ?_
  refine xi_sipush (pc' := 4) (v := 599) kc_20_1 rfl rfl ?_
  by_cases c1 : 599 ≤ x1.toInt
  · refine xi_cmt (pc' := 11) kc_20_4 rfl (xc_ge_t (X := x1.toInt) (Y := 599) rfl (by decide) (by omega)) ?_
    refine xi_sipush (pc' := 14) (v := 599) kc_20_11 rfl rfl ?_
    refine xi_istore_n (pc' := 15) (lv' := [(2, .int 599), (0, .ref 115), (1, .int x1)]) kc_20_14 rfl rfl (xm_lt ml_20 rfl) ?_
    have zc599 : (599 : Int32).toInt = 599 := by decide
    refine xw_lv (b := [(0, .ref 115), (2, .int 599)]) (lvS_cons (lvS_cons (lvS_nil (show ([2, 0, 1] : List Nat).Nodup by decide)) rfl) rfl) ?_
    exact (lp_20_0 hJ hov1 hov2 (d := d) (hb := h) (fun r9 h9 K9 => kk r9 h9 (xk_tr K K9 rfl)) 601) 599 h (by omega) (xk_re K.1) (by omega)
  · refine xi_cmf (pc' := 7) kc_20_4 rfl (xc_ge_f (X := x1.toInt) (Y := 599) rfl (by decide) (by omega)) ?_
    refine xi_iload_n (pc' := 8) (x := x1) kc_20_7 rfl rfl ?_
    refine xi_goto (pc' := 14) kc_20_8 rfl ?_
    refine xi_istore_n (pc' := 15) (lv' := [(2, .int x1), (0, .ref 115), (1, .int x1)]) kc_20_14 rfl rfl (xm_lt ml_20 rfl) ?_
    refine xw_lv (b := [(0, .ref 115), (2, .int x1)]) (lvS_cons (lvS_cons (lvS_nil (show ([2, 0, 1] : List Nat).Nodup by decide)) rfl) rfl) ?_
    exact (lp_20_0 hJ hov1 hov2 (d := d) (hb := h) (fun r9 h9 K9 => kk r9 h9 (xk_tr K K9 rfl)) 601) x1 h (by omega) (xk_re K.1) (by omega)
set_option maxHeartbeats 4000000 in
theorem mt_18_0 {J : xe_J} {ov : List (List Int32)} (hJ : ∀ d mj as h, mj ≠ xe_loff → J d mj as h = none) (hov1 : ov[1]? = some [10, 0, 0, 0, 0, 0]) (hov2 : ov[2]? = some [99, 30, 50, 50, 1, 99999]) {d : Nat} {Q : Option Value → xe_H → Prop} {h : xe_H} {x1 : Int32} {x2 : Int32} (T : xt h) (kk : (∀ (r : Int32) (h' : xe_H), xk [(0, 9), (115, 1), (83, 0), (29, 0), (31, 0), (33, 0), (35, 0), (37, 0), (39, 0), (41, 0), (43, 0), (45, 0), (47, 0), (49, 0), (51, 0), (125, 0), (66, 8), (115, 18), (71, 0), (132, 0)] h h' → Q (some (.int r)) h')) : xw J ov (d + 2) 18 (0, [(0, .ref 115), (1, .int x1), (2, .int x2)], [], h) Q := by
  have K : xk [(0, 9), (115, 1), (83, 0), (29, 0), (31, 0), (33, 0), (35, 0), (37, 0), (39, 0), (41, 0), (43, 0), (45, 0), (47, 0), (49, 0), (51, 0), (125, 0), (66, 8), (115, 18), (71, 0), (132, 0)] h h := xk_re T
  have rx1 := xc_rng x1
  have rx2 := xc_rng x2
  refine xi_aload_n (pc' := 1) (x := 115) kc_18_0 rfl rfl ?_
  refine xi_iconst (pc' := 2) (v := 0) kc_18_1 rfl rfl ?_
  refine xp_115 K.1 (fun u1 u2 u3 u4 u5 u6 u7 u8 u9 u10 u11 u12 u13 bu1 bu2 bu3 bu4 bu5 bu6 bu7 bu8 bu9 bu10 bu11 bu12 bu13 A14 => ?_)
  refine xi_putfield (pc' := 5) (fs' := [.int 0, .int u2, .ref 116, .ref 117, .ref 118, .ref 119, .ref 120, .ref 121, .ref 122, .ref 123, .ref 124, .ref 125, .ref 126, .ref 127, .ref 128, .ref 129, .int u3, .ref 130, .int u4, .ref 131, .ref 132, .ref 133, .ref 134, .int u5, .ref 135, .ref 136, .ref 137, .ref 138, .ref 139, .ref 140, .ref 141, .ref 142, .int u6, .int u7, .int u8, .ref 143, .ref 144, .ref 145, .ref 146, .ref 147, .ref 148, .int u9, .ref 149, .ref 150, .ref 151, .int u10, .ref 152, .ref 153, .ref 154, .ref 155, .ref 156, .ref 157, .ref 158, .ref 159, .int u11, .ref 160, .int u12, .ref 161, .ref 162, .ref 163, .ref 164, .int u13, .ref 165, .ref 166]) kc_18_2 rfl rfl rfl A14 rfl rfl rfl (Nat.le_of_ble_eq_true rfl) rfl (fun hh16 eh15 => ?_)
  have K17 := xk_pf (k := 0) (v := 0) K (xk_wf rfl) xD_115 A14 rfl (by first | omega | decide) (by first | omega | decide) eh15 rfl
  refine xi_iload_n (pc' := 6) (x := x2) kc_18_5 rfl rfl ?_
  refine xi_iconst (pc' := 7) (v := 0) kc_18_6 rfl rfl ?_
  refine xi_iconst (pc' := 8) (v := 1) kc_18_7 rfl rfl ?_
  refine xi_static (mj := 11) (as := [.int x2, .int 0, .int 1]) (st1 := []) (lv0 := [(0, .int x2), (1, .int 0), (2, .int 1)]) kc_18_8 rfl rfl (Nat.le_of_ble_eq_true rfl) rfl rfl (Nat.le_of_ble_eq_true rfl) (hJ _ _ _ _ (by decide)) (xm_le ml_11 rfl) rfl ?_
  refine xi_iload_n (pc' := 1) (x := x2) kc_11_0 rfl rfl ?_
  refine xi_iload_n (pc' := 2) (x := 0) kc_11_1 rfl rfl ?_
  by_cases c18 : x2.toInt < 0
  · refine xi_cmt (pc' := 14) kc_11_2 rfl (xc_lt_t (X := x2.toInt) (Y := 0) rfl (by decide) (by omega)) ?_
    refine xi_iconst (pc' := 15) (v := 0) kc_11_14 rfl rfl ?_
    refine xi_ireturn kc_11_15 mr_11 rfl ?_
    show xw J ov (d + 2) 18 (11, [(0, .ref 115), (1, .int x1), (2, .int x2)], [.int 0], hh16) _
    refine xi_iff (pc' := 14) kc_18_11 rfl rfl ?_
    refine xi_aload_n (pc' := 15) (x := 115) kc_18_14 rfl rfl ?_
    refine xi_bipush (pc' := 17) (v := (-2)) kc_18_15 rfl rfl ?_
    refine xi_virtual (mj := 17) (as := [.int (-2)]) (st1 := []) (lv0 := [(0, .ref 115), (1, .int (-2))]) kc_18_17 rfl rfl rfl rfl rfl eh15.1 (Nat.le_of_ble_eq_true rfl) (hJ _ _ _ _ (by decide)) (xm_le ml_17 rfl) rfl ?_
    refine xi_aload_n (pc' := 1) (x := 115) kc_17_0 rfl rfl ?_
    refine xi_getfield (pc' := 4) (v := .ref 140) kc_17_1 rfl rfl rfl eh15.1 rfl ?_
    refine xi_iload_n (pc' := 5) (x := (-2)) kc_17_4 rfl rfl ?_
    refine xi_ineg (pc' := 6) (v := 2) kc_17_5 rfl rfl ?_
    refine xi_dup2 (pc' := 7) kc_17_6 rfl ⟨rfl, rfl⟩ ?_
    refine xcps4 (xk_arr K17.1 xD_140) (fun y19 A19 hy19 ry19 => ?_)
    refine xcps4 (xj_get hy19 ry19 (i := 2) (by decide) (by decide)) (fun v20 ev20 bv20 dv20 => ?_)
    refine xi_iaload (pc' := 8) (v := v20) kc_17_7 rfl A19 (by decide) rfl (xi_in (by decide) (by rw [hy19]; decide)) ev20 ?_
    refine xi_iconst (pc' := 9) (v := 1) kc_17_8 rfl rfl ?_
    refine xcps2 (α := Int32) ((v20 : Int32) + 1) (fun v21 ev21 => ?_)
    have rv21 := xc_rng v21
    refine xi_iadd (pc' := 10) (v := v21) kc_17_9 rfl ev21 ?_
    refine xcps4 (xj_set (v := v21) hy19 ry19 2 (by first | omega | decide) (by first | omega | decide)) (fun y22 s22 hy22 ry22 => ?_)
    refine xi_iastore (pc' := 11) (x' := y22) kc_17_10 rfl A19 rfl (xi_in (by decide) (by rw [hy19]; decide)) s22 (fun hh22 eh22 => ?_)
    have K23 := xk_pa K17 (xk_wa rfl) xD_140 hy22 ry22 eh22
    refine xi_ldc (pc' := 13) (v := 1000000000) kc_17_11 rfl rfl ?_
    refine xi_iload_n (pc' := 14) (x := (-2)) kc_17_13 rfl rfl ?_
    refine xi_isub (pc' := 15) (v := 1000000002) kc_17_14 rfl rfl ?_
    refine xi_ireturn kc_17_15 mr_17 rfl ?_
    show xw J ov (d + 2) 18 (20, [(0, .ref 115), (1, .int x1), (2, .int x2)], [.int 1000000002], hh22) _
    refine xi_ireturn kc_18_20 mr_18 rfl ?_
    have zc1000000002 : (1000000002 : Int32).toInt = 1000000002 := by decide
    exact kk 1000000002 hh22 K23
  · refine xi_cmf (pc' := 5) kc_11_2 rfl (xc_lt_f (X := x2.toInt) (Y := 0) rfl (by decide) (by omega)) ?_
    refine xi_iload_n (pc' := 6) (x := x2) kc_11_5 rfl rfl ?_
    refine xi_iload_n (pc' := 7) (x := 1) kc_11_6 rfl rfl ?_
    by_cases c24 : 1 < x2.toInt
    · refine xi_cmt (pc' := 14) kc_11_7 rfl (xc_gt_t (X := x2.toInt) (Y := 1) rfl (by decide) (by omega)) ?_
      refine xi_iconst (pc' := 15) (v := 0) kc_11_14 rfl rfl ?_
      refine xi_ireturn kc_11_15 mr_11 rfl ?_
      show xw J ov (d + 2) 18 (11, [(0, .ref 115), (1, .int x1), (2, .int x2)], [.int 0], hh16) _
      refine xi_iff (pc' := 14) kc_18_11 rfl rfl ?_
      refine xi_aload_n (pc' := 15) (x := 115) kc_18_14 rfl rfl ?_
      refine xi_bipush (pc' := 17) (v := (-2)) kc_18_15 rfl rfl ?_
      refine xi_virtual (mj := 17) (as := [.int (-2)]) (st1 := []) (lv0 := [(0, .ref 115), (1, .int (-2))]) kc_18_17 rfl rfl rfl rfl rfl eh15.1 (Nat.le_of_ble_eq_true rfl) (hJ _ _ _ _ (by decide)) (xm_le ml_17 rfl) rfl ?_
      refine xi_aload_n (pc' := 1) (x := 115) kc_17_0 rfl rfl ?_
      refine xi_getfield (pc' := 4) (v := .ref 140) kc_17_1 rfl rfl rfl eh15.1 rfl ?_
      refine xi_iload_n (pc' := 5) (x := (-2)) kc_17_4 rfl rfl ?_
      refine xi_ineg (pc' := 6) (v := 2) kc_17_5 rfl rfl ?_
      refine xi_dup2 (pc' := 7) kc_17_6 rfl ⟨rfl, rfl⟩ ?_
      refine xcps4 (xk_arr K17.1 xD_140) (fun y25 A25 hy25 ry25 => ?_)
      refine xcps4 (xj_get hy25 ry25 (i := 2) (by decide) (by decide)) (fun v26 ev26 bv26 dv26 => ?_)
      refine xi_iaload (pc' := 8) (v := v26) kc_17_7 rfl A25 (by decide) rfl (xi_in (by decide) (by rw [hy25]; decide)) ev26 ?_
      refine xi_iconst (pc' := 9) (v := 1) kc_17_8 rfl rfl ?_
      refine xcps2 (α := Int32) ((v26 : Int32) + 1) (fun v27 ev27 => ?_)
      have rv27 := xc_rng v27
      refine xi_iadd (pc' := 10) (v := v27) kc_17_9 rfl ev27 ?_
      refine xcps4 (xj_set (v := v27) hy25 ry25 2 (by first | omega | decide) (by first | omega | decide)) (fun y28 s28 hy28 ry28 => ?_)
      refine xi_iastore (pc' := 11) (x' := y28) kc_17_10 rfl A25 rfl (xi_in (by decide) (by rw [hy25]; decide)) s28 (fun hh28 eh28 => ?_)
      have K29 := xk_pa K17 (xk_wa rfl) xD_140 hy28 ry28 eh28
      refine xi_ldc (pc' := 13) (v := 1000000000) kc_17_11 rfl rfl ?_
      refine xi_iload_n (pc' := 14) (x := (-2)) kc_17_13 rfl rfl ?_
      refine xi_isub (pc' := 15) (v := 1000000002) kc_17_14 rfl rfl ?_
      refine xi_ireturn kc_17_15 mr_17 rfl ?_
      show xw J ov (d + 2) 18 (20, [(0, .ref 115), (1, .int x1), (2, .int x2)], [.int 1000000002], hh28) _
      refine xi_ireturn kc_18_20 mr_18 rfl ?_
      have zc1000000002 : (1000000002 : Int32).toInt = 1000000002 := by decide
      exact kk 1000000002 hh28 K29
    · refine xi_cmf (pc' := 10) kc_11_7 rfl (xc_gt_f (X := x2.toInt) (Y := 1) rfl (by decide) (by omega)) ?_
      refine xi_iconst (pc' := 11) (v := 1) kc_11_10 rfl rfl ?_
      refine xi_goto (pc' := 15) kc_11_11 rfl ?_
      refine xi_ireturn kc_11_15 mr_11 rfl ?_
      show xw J ov (d + 2) 18 (11, [(0, .ref 115), (1, .int x1), (2, .int x2)], [.int 1], hh16) _
      refine xi_ift (pc' := 21) kc_18_11 rfl rfl ?_
      refine xi_iload_n (pc' := 22) (x := x1) kc_18_21 rfl rfl ?_
      by_cases c30 : 0 ≤ x1.toInt
      · refine xi_ift (pc' := 32) kc_18_22 rfl (xc_ge_t (X := x1.toInt) (Y := 0) rfl (by decide) (by omega)) ?_
        refine xi_iload_n (pc' := 33) (x := x1) kc_18_32 rfl rfl ?_
        refine xi_sipush (pc' := 36) (v := 599) kc_18_33 rfl rfl ?_
        by_cases c31 : x1.toInt ≤ 599
        · refine xi_cmt (pc' := 46) kc_18_36 rfl (xc_le_t (X := x1.toInt) (Y := 599) rfl (by decide) (by omega)) ?_
          refine xi_iload_n (pc' := 47) (x := x2) kc_18_46 rfl rfl ?_
          by_cases c32 : x2.toInt = 0
          · refine xi_iff (pc' := 50) kc_18_47 rfl (xc_ne_f (X := x2.toInt) (Y := 0) rfl (by decide) (by omega)) ?_
            refine xi_aload_n (pc' := 51) (x := 115) kc_18_50 rfl rfl ?_
            refine xi_iload_n (pc' := 52) (x := x1) kc_18_51 rfl rfl ?_
            refine xi_virtual (mj := 19) (as := [.int x1]) (st1 := []) (lv0 := [(0, .ref 115), (1, .int x1)]) kc_18_52 rfl rfl rfl rfl rfl eh15.1 (Nat.le_of_ble_eq_true rfl) (hJ _ _ _ _ (by decide)) (xm_le ml_19 rfl) rfl ?_
            refine mt_19_0 hJ hov1 hov2 (d := d) (x1 := x1) K17.1 (by first | omega | decide) (fun r33 hh34 K35 => ?_)
            have br33 := xc_rng r33
            have K36 := xk_tr K17 K35 rfl
            refine xp_115 K36.1 (fun u37 u38 u39 u40 u41 u42 u43 u44 u45 u46 u47 u48 u49 bu37 bu38 bu39 bu40 bu41 bu42 bu43 bu44 bu45 bu46 bu47 bu48 bu49 A50 => ?_)
            have e51 : u2 = u38 := xk_eqi (q := 1) K35 rfl eh15.1 A50 rfl rfl
            subst e51
            have e52 : u4 = u40 := xk_eqi (q := 18) K35 rfl eh15.1 A50 rfl rfl
            subst e52
            show xw J ov (d + 2) 18 (55, [(0, .ref 115), (1, .int x1), (2, .int x2)], [.int r33], hh34) _
            refine xi_goto (pc' := 63) kc_18_55 rfl ?_
            refine xi_ireturn kc_18_63 mr_18 rfl ?_
            exact kk r33 hh34 K36
          · refine xi_ift (pc' := 58) kc_18_47 rfl (xc_ne_t (X := x2.toInt) (Y := 0) rfl (by decide) (by omega)) ?_
            refine xi_aload_n (pc' := 59) (x := 115) kc_18_58 rfl rfl ?_
            refine xi_iload_n (pc' := 60) (x := x1) kc_18_59 rfl rfl ?_
            refine xi_virtual (mj := 20) (as := [.int x1]) (st1 := []) (lv0 := [(0, .ref 115), (1, .int x1)]) kc_18_60 rfl rfl rfl rfl rfl eh15.1 (Nat.le_of_ble_eq_true rfl) (hJ _ _ _ _ (by decide)) (xm_le ml_20 rfl) rfl ?_
            refine mt_20_0 hJ hov1 hov2 (d := d) (x1 := x1) K17.1 (by first | omega | decide) (fun r53 hh54 K55 => ?_)
            have br53 := xc_rng r53
            have K56 := xk_tr K17 K55 rfl
            refine xp_115 K56.1 (fun u57 u58 u59 u60 u61 u62 u63 u64 u65 u66 u67 u68 u69 bu57 bu58 bu59 bu60 bu61 bu62 bu63 bu64 bu65 bu66 bu67 bu68 bu69 A70 => ?_)
            have e71 : u2 = u58 := xk_eqi (q := 1) K55 rfl eh15.1 A70 rfl rfl
            subst e71
            have e72 : u4 = u60 := xk_eqi (q := 18) K55 rfl eh15.1 A70 rfl rfl
            subst e72
            show xw J ov (d + 2) 18 (63, [(0, .ref 115), (1, .int x1), (2, .int x2)], [.int r53], hh54) _
            refine xi_ireturn kc_18_63 mr_18 rfl ?_
            exact kk r53 hh54 K56
        · refine xi_cmf (pc' := 39) kc_18_36 rfl (xc_le_f (X := x1.toInt) (Y := 599) rfl (by decide) (by omega)) ?_
          refine xi_aload_n (pc' := 40) (x := 115) kc_18_39 rfl rfl ?_
          refine xi_bipush (pc' := 42) (v := (-6)) kc_18_40 rfl rfl ?_
          refine xi_virtual (mj := 17) (as := [.int (-6)]) (st1 := []) (lv0 := [(0, .ref 115), (1, .int (-6))]) kc_18_42 rfl rfl rfl rfl rfl eh15.1 (Nat.le_of_ble_eq_true rfl) (hJ _ _ _ _ (by decide)) (xm_le ml_17 rfl) rfl ?_
          refine xi_aload_n (pc' := 1) (x := 115) kc_17_0 rfl rfl ?_
          refine xi_getfield (pc' := 4) (v := .ref 140) kc_17_1 rfl rfl rfl eh15.1 rfl ?_
          refine xi_iload_n (pc' := 5) (x := (-6)) kc_17_4 rfl rfl ?_
          refine xi_ineg (pc' := 6) (v := 6) kc_17_5 rfl rfl ?_
          refine xi_dup2 (pc' := 7) kc_17_6 rfl ⟨rfl, rfl⟩ ?_
          refine xcps4 (xk_arr K17.1 xD_140) (fun y73 A73 hy73 ry73 => ?_)
          refine xcps4 (xj_get hy73 ry73 (i := 6) (by decide) (by decide)) (fun v74 ev74 bv74 dv74 => ?_)
          refine xi_iaload (pc' := 8) (v := v74) kc_17_7 rfl A73 (by decide) rfl (xi_in (by decide) (by rw [hy73]; decide)) ev74 ?_
          refine xi_iconst (pc' := 9) (v := 1) kc_17_8 rfl rfl ?_
          refine xcps2 (α := Int32) ((v74 : Int32) + 1) (fun v75 ev75 => ?_)
          have rv75 := xc_rng v75
          refine xi_iadd (pc' := 10) (v := v75) kc_17_9 rfl ev75 ?_
          refine xcps4 (xj_set (v := v75) hy73 ry73 6 (by first | omega | decide) (by first | omega | decide)) (fun y76 s76 hy76 ry76 => ?_)
          refine xi_iastore (pc' := 11) (x' := y76) kc_17_10 rfl A73 rfl (xi_in (by decide) (by rw [hy73]; decide)) s76 (fun hh76 eh76 => ?_)
          have K77 := xk_pa K17 (xk_wa rfl) xD_140 hy76 ry76 eh76
          refine xi_ldc (pc' := 13) (v := 1000000000) kc_17_11 rfl rfl ?_
          refine xi_iload_n (pc' := 14) (x := (-6)) kc_17_13 rfl rfl ?_
          refine xi_isub (pc' := 15) (v := 1000000006) kc_17_14 rfl rfl ?_
          refine xi_ireturn kc_17_15 mr_17 rfl ?_
          show xw J ov (d + 2) 18 (45, [(0, .ref 115), (1, .int x1), (2, .int x2)], [.int 1000000006], hh76) _
          refine xi_ireturn kc_18_45 mr_18 rfl ?_
          have zc1000000006 : (1000000006 : Int32).toInt = 1000000006 := by decide
          exact kk 1000000006 hh76 K77
      · refine xi_iff (pc' := 25) kc_18_22 rfl (xc_ge_f (X := x1.toInt) (Y := 0) rfl (by decide) (by omega)) ?_
        refine xi_aload_n (pc' := 26) (x := 115) kc_18_25 rfl rfl ?_
        refine xi_bipush (pc' := 28) (v := (-4)) kc_18_26 rfl rfl ?_
        refine xi_virtual (mj := 17) (as := [.int (-4)]) (st1 := []) (lv0 := [(0, .ref 115), (1, .int (-4))]) kc_18_28 rfl rfl rfl rfl rfl eh15.1 (Nat.le_of_ble_eq_true rfl) (hJ _ _ _ _ (by decide)) (xm_le ml_17 rfl) rfl ?_
        refine xi_aload_n (pc' := 1) (x := 115) kc_17_0 rfl rfl ?_
        refine xi_getfield (pc' := 4) (v := .ref 140) kc_17_1 rfl rfl rfl eh15.1 rfl ?_
        refine xi_iload_n (pc' := 5) (x := (-4)) kc_17_4 rfl rfl ?_
        refine xi_ineg (pc' := 6) (v := 4) kc_17_5 rfl rfl ?_
        refine xi_dup2 (pc' := 7) kc_17_6 rfl ⟨rfl, rfl⟩ ?_
        refine xcps4 (xk_arr K17.1 xD_140) (fun y78 A78 hy78 ry78 => ?_)
        refine xcps4 (xj_get hy78 ry78 (i := 4) (by decide) (by decide)) (fun v79 ev79 bv79 dv79 => ?_)
        refine xi_iaload (pc' := 8) (v := v79) kc_17_7 rfl A78 (by decide) rfl (xi_in (by decide) (by rw [hy78]; decide)) ev79 ?_
        refine xi_iconst (pc' := 9) (v := 1) kc_17_8 rfl rfl ?_
        refine xcps2 (α := Int32) ((v79 : Int32) + 1) (fun v80 ev80 => ?_)
        have rv80 := xc_rng v80
        refine xi_iadd (pc' := 10) (v := v80) kc_17_9 rfl ev80 ?_
        refine xcps4 (xj_set (v := v80) hy78 ry78 4 (by first | omega | decide) (by first | omega | decide)) (fun y81 s81 hy81 ry81 => ?_)
        refine xi_iastore (pc' := 11) (x' := y81) kc_17_10 rfl A78 rfl (xi_in (by decide) (by rw [hy78]; decide)) s81 (fun hh81 eh81 => ?_)
        have K82 := xk_pa K17 (xk_wa rfl) xD_140 hy81 ry81 eh81
        refine xi_ldc (pc' := 13) (v := 1000000000) kc_17_11 rfl rfl ?_
        refine xi_iload_n (pc' := 14) (x := (-4)) kc_17_13 rfl rfl ?_
        refine xi_isub (pc' := 15) (v := 1000000004) kc_17_14 rfl rfl ?_
        refine xi_ireturn kc_17_15 mr_17 rfl ?_
        show xw J ov (d + 2) 18 (31, [(0, .ref 115), (1, .int x1), (2, .int x2)], [.int 1000000004], hh81) _
        refine xi_ireturn kc_18_31 mr_18 rfl ?_
        have zc1000000004 : (1000000004 : Int32).toInt = 1000000004 := by decide
        exact kk 1000000004 hh81 K82
set_option maxHeartbeats 4000000 in
theorem mt_180_0 {J : xe_J} {ov : List (List Int32)} (hJ : ∀ d mj as h, mj ≠ xe_loff → J d mj as h = none) (hov1 : ov[1]? = some [10, 0, 0, 0, 0, 0]) (hov2 : ov[2]? = some [99, 30, 50, 50, 1, 99999]) {d : Nat} {Q : Option Value → xe_H → Prop} {h : xe_H} {x1 : Int32} {x2 : Int32} {x3 : Int32} (T : xt h) (b1 : (0 ≤ x1.toInt ∧ x1.toInt ≤ 1)) (b3 : (0 ≤ x3.toInt ∧ x3.toInt ≤ 1)) (kk : (∀ (r : Int32) (h' : xe_H), ((-2) ≤ r.toInt ∧ r.toInt ≤ 1) → xk [(0, 9), (115, 1), (83, 0), (29, 0), (31, 0), (33, 0), (35, 0), (37, 0), (39, 0), (41, 0), (43, 0), (45, 0), (47, 0), (49, 0), (51, 0), (125, 0), (66, 8), (115, 18), (71, 0), (132, 0)] h h' → Q (some (.int r)) h')) : xw J ov (d + 2) 180 (0, [(0, .ref 0), (1, .int x1), (2, .int x2), (3, .int x3)], [], h) Q := by
  have K : xk [(0, 9), (115, 1), (83, 0), (29, 0), (31, 0), (33, 0), (35, 0), (37, 0), (39, 0), (41, 0), (43, 0), (45, 0), (47, 0), (49, 0), (51, 0), (125, 0), (66, 8), (115, 18), (71, 0), (132, 0)] h h := xk_re T
  have rx2 := xc_rng x2
  refine xi_iload_n (pc' := 1) (x := x2) kc_180_0 rfl rfl ?_
  refine xi_static (mj := 117) (as := [.int x2]) (st1 := []) (lv0 := [(0, .int x2)]) kc_180_1 rfl rfl (Nat.le_of_ble_eq_true rfl) rfl rfl (Nat.le_of_ble_eq_true rfl) (hJ _ _ _ _ (by decide)) (xm_le ml_117 rfl) rfl ?_
  refine xi_iload_n (pc' := 1) (x := x2) kc_117_0 rfl rfl ?_
  by_cases c1 : x2.toInt < 0
  · refine xi_ift (pc' := 13) kc_117_1 rfl (xc_lt_t (X := x2.toInt) (Y := 0) rfl (by decide) (by omega)) ?_
    refine xi_iconst (pc' := 14) (v := 0) kc_117_13 rfl rfl ?_
    refine xi_ireturn kc_117_14 mr_117 rfl ?_
    show xw J ov (d + 2) 180 (4, [(0, .ref 0), (1, .int x1), (2, .int x2), (3, .int x3)], [.int 0], h) _
    refine xi_iff (pc' := 7) kc_180_4 rfl rfl ?_
    refine xi_aload_n (pc' := 8) (x := 0) kc_180_7 rfl rfl ?_
    refine xi_bipush (pc' := 10) (v := (-2)) kc_180_8 rfl rfl ?_
    refine xp_0 K.1 (fun u2 u3 bu2 bu3 A4 => ?_)
    refine xi_virtual (mj := 90) (as := [.int (-2)]) (st1 := []) (lv0 := [(0, .ref 0), (1, .int (-2))]) kc_180_10 rfl rfl rfl rfl rfl A4 (Nat.le_of_ble_eq_true rfl) (hJ _ _ _ _ (by decide)) (xm_le ml_90 rfl) rfl ?_
    refine xi_iload_n (pc' := 1) (x := (-2)) kc_90_0 rfl rfl ?_
    refine xi_ineg (pc' := 2) (v := 2) kc_90_1 rfl rfl ?_
    refine xi_istore_n (pc' := 3) (lv' := [(2, .int 2), (0, .ref 0), (1, .int (-2))]) kc_90_2 rfl rfl (xm_lt ml_90 rfl) ?_
    refine xi_iload_n (pc' := 4) (x := 2) kc_90_3 rfl rfl ?_
    refine xi_iff (pc' := 7) kc_90_4 rfl rfl ?_
    refine xi_iload_n (pc' := 8) (x := 2) kc_90_7 rfl rfl ?_
    refine xi_aload_n (pc' := 9) (x := 0) kc_90_8 rfl rfl ?_
    refine xi_getfield (pc' := 12) (v := .ref 94) kc_90_9 rfl rfl rfl A4 rfl ?_
    refine xcps4 (xk_arr K.1 xD_94) (fun y5 A5 hy5 ry5 => ?_)
    refine xi_arraylength (pc' := 13) (n := 7) (v := 7) kc_90_12 rfl (xl_lenI (by decide) (by decide) A5 hy5) rfl ?_
    refine xi_cmf (pc' := 16) kc_90_13 rfl rfl ?_
    refine xi_aload_n (pc' := 17) (x := 0) kc_90_16 rfl rfl ?_
    refine xi_getfield (pc' := 20) (v := .ref 94) kc_90_17 rfl rfl rfl A4 rfl ?_
    refine xi_iload_n (pc' := 21) (x := 2) kc_90_20 rfl rfl ?_
    refine xi_dup2 (pc' := 22) kc_90_21 rfl ⟨rfl, rfl⟩ ?_
    refine xcps4 (xj_get hy5 ry5 (i := 2) (by decide) (by decide)) (fun v6 ev6 bv6 dv6 => ?_)
    refine xi_iaload (pc' := 23) (v := v6) kc_90_22 rfl A5 (by decide) rfl (xi_in (by decide) (by rw [hy5]; decide)) ev6 ?_
    refine xi_iconst (pc' := 24) (v := 1) kc_90_23 rfl rfl ?_
    refine xcps2 (α := Int32) ((v6 : Int32) + 1) (fun v7 ev7 => ?_)
    have rv7 := xc_rng v7
    refine xi_iadd (pc' := 25) (v := v7) kc_90_24 rfl ev7 ?_
    refine xcps4 (xj_set (v := v7) hy5 ry5 2 (by first | omega | decide) (by first | omega | decide)) (fun y8 s8 hy8 ry8 => ?_)
    refine xi_iastore (pc' := 26) (x' := y8) kc_90_25 rfl A5 rfl (xi_in (by decide) (by rw [hy5]; decide)) s8 (fun hh8 eh8 => ?_)
    have K9 := xk_pa K (xk_wa rfl) xD_94 hy8 ry8 eh8
    refine xi_iload_n (pc' := 27) (x := (-2)) kc_90_26 rfl rfl ?_
    refine xi_ireturn kc_90_27 mr_90 rfl ?_
    show xw J ov (d + 2) 180 (13, [(0, .ref 0), (1, .int x1), (2, .int x2), (3, .int x3)], [.int (-2)], hh8) _
    refine xi_ireturn kc_180_13 mr_180 rfl ?_
    have zcm2 : ((-2) : Int32).toInt = (-2) := by decide
    exact kk (-2) hh8 (by omega) K9
  · refine xi_iff (pc' := 4) kc_117_1 rfl (xc_lt_f (X := x2.toInt) (Y := 0) rfl (by decide) (by omega)) ?_
    refine xi_iload_n (pc' := 5) (x := x2) kc_117_4 rfl rfl ?_
    refine xi_iconst (pc' := 6) (v := 4) kc_117_5 rfl rfl ?_
    by_cases c10 : 4 ≤ x2.toInt
    · refine xi_cmt (pc' := 13) kc_117_6 rfl (xc_ge_t (X := x2.toInt) (Y := 4) rfl (by decide) (by omega)) ?_
      refine xi_iconst (pc' := 14) (v := 0) kc_117_13 rfl rfl ?_
      refine xi_ireturn kc_117_14 mr_117 rfl ?_
      show xw J ov (d + 2) 180 (4, [(0, .ref 0), (1, .int x1), (2, .int x2), (3, .int x3)], [.int 0], h) _
      refine xi_iff (pc' := 7) kc_180_4 rfl rfl ?_
      refine xi_aload_n (pc' := 8) (x := 0) kc_180_7 rfl rfl ?_
      refine xi_bipush (pc' := 10) (v := (-2)) kc_180_8 rfl rfl ?_
      refine xp_0 K.1 (fun u11 u12 bu11 bu12 A13 => ?_)
      refine xi_virtual (mj := 90) (as := [.int (-2)]) (st1 := []) (lv0 := [(0, .ref 0), (1, .int (-2))]) kc_180_10 rfl rfl rfl rfl rfl A13 (Nat.le_of_ble_eq_true rfl) (hJ _ _ _ _ (by decide)) (xm_le ml_90 rfl) rfl ?_
      refine xi_iload_n (pc' := 1) (x := (-2)) kc_90_0 rfl rfl ?_
      refine xi_ineg (pc' := 2) (v := 2) kc_90_1 rfl rfl ?_
      refine xi_istore_n (pc' := 3) (lv' := [(2, .int 2), (0, .ref 0), (1, .int (-2))]) kc_90_2 rfl rfl (xm_lt ml_90 rfl) ?_
      refine xi_iload_n (pc' := 4) (x := 2) kc_90_3 rfl rfl ?_
      refine xi_iff (pc' := 7) kc_90_4 rfl rfl ?_
      refine xi_iload_n (pc' := 8) (x := 2) kc_90_7 rfl rfl ?_
      refine xi_aload_n (pc' := 9) (x := 0) kc_90_8 rfl rfl ?_
      refine xi_getfield (pc' := 12) (v := .ref 94) kc_90_9 rfl rfl rfl A13 rfl ?_
      refine xcps4 (xk_arr K.1 xD_94) (fun y14 A14 hy14 ry14 => ?_)
      refine xi_arraylength (pc' := 13) (n := 7) (v := 7) kc_90_12 rfl (xl_lenI (by decide) (by decide) A14 hy14) rfl ?_
      refine xi_cmf (pc' := 16) kc_90_13 rfl rfl ?_
      refine xi_aload_n (pc' := 17) (x := 0) kc_90_16 rfl rfl ?_
      refine xi_getfield (pc' := 20) (v := .ref 94) kc_90_17 rfl rfl rfl A13 rfl ?_
      refine xi_iload_n (pc' := 21) (x := 2) kc_90_20 rfl rfl ?_
      refine xi_dup2 (pc' := 22) kc_90_21 rfl ⟨rfl, rfl⟩ ?_
      refine xcps4 (xj_get hy14 ry14 (i := 2) (by decide) (by decide)) (fun v15 ev15 bv15 dv15 => ?_)
      refine xi_iaload (pc' := 23) (v := v15) kc_90_22 rfl A14 (by decide) rfl (xi_in (by decide) (by rw [hy14]; decide)) ev15 ?_
      refine xi_iconst (pc' := 24) (v := 1) kc_90_23 rfl rfl ?_
      refine xcps2 (α := Int32) ((v15 : Int32) + 1) (fun v16 ev16 => ?_)
      have rv16 := xc_rng v16
      refine xi_iadd (pc' := 25) (v := v16) kc_90_24 rfl ev16 ?_
      refine xcps4 (xj_set (v := v16) hy14 ry14 2 (by first | omega | decide) (by first | omega | decide)) (fun y17 s17 hy17 ry17 => ?_)
      refine xi_iastore (pc' := 26) (x' := y17) kc_90_25 rfl A14 rfl (xi_in (by decide) (by rw [hy14]; decide)) s17 (fun hh17 eh17 => ?_)
      have K18 := xk_pa K (xk_wa rfl) xD_94 hy17 ry17 eh17
      refine xi_iload_n (pc' := 27) (x := (-2)) kc_90_26 rfl rfl ?_
      refine xi_ireturn kc_90_27 mr_90 rfl ?_
      show xw J ov (d + 2) 180 (13, [(0, .ref 0), (1, .int x1), (2, .int x2), (3, .int x3)], [.int (-2)], hh17) _
      refine xi_ireturn kc_180_13 mr_180 rfl ?_
      have zcm2 : ((-2) : Int32).toInt = (-2) := by decide
      exact kk (-2) hh17 (by omega) K18
    · refine xi_cmf (pc' := 9) kc_117_6 rfl (xc_ge_f (X := x2.toInt) (Y := 4) rfl (by decide) (by omega)) ?_
      refine xi_iconst (pc' := 10) (v := 1) kc_117_9 rfl rfl ?_
      refine xi_goto (pc' := 14) kc_117_10 rfl ?_
      refine xi_ireturn kc_117_14 mr_117 rfl ?_
      show xw J ov (d + 2) 180 (4, [(0, .ref 0), (1, .int x1), (2, .int x2), (3, .int x3)], [.int 1], h) _
      refine xi_ift (pc' := 14) kc_180_4 rfl rfl ?_
      refine xi_aload_n (pc' := 15) (x := 0) kc_180_14 rfl rfl ?_
      refine xp_0 K.1 (fun u19 u20 bu19 bu20 A21 => ?_)
      refine xi_getfield (pc' := 18) (v := .ref 85) kc_180_15 rfl rfl rfl A21 rfl ?_
      refine xi_iload_n (pc' := 19) (x := x1) kc_180_18 rfl rfl ?_
      refine xi_iload_n (pc' := 20) (x := x2) kc_180_19 rfl rfl ?_
      refine xi_iload_n (pc' := 21) (x := x3) kc_180_20 rfl rfl ?_
      refine xi_aload_n (pc' := 22) (x := 0) kc_180_21 rfl rfl ?_
      refine xi_getfield (pc' := 25) (v := .int u20) kc_180_22 rfl rfl rfl A21 rfl ?_
      refine xp_85 K.1 (fun u22 u23 bu22 bu23 A24 => ?_)
      refine xi_virtual (mj := 181) (as := [.int x1, .int x2, .int x3, .int u20]) (st1 := []) (lv0 := [(0, .ref 85), (1, .int x1), (2, .int x2), (3, .int x3), (4, .int u20)]) kc_180_25 rfl rfl rfl rfl rfl A24 (Nat.le_of_ble_eq_true rfl) (hJ _ _ _ _ (by decide)) (xm_le ml_181 rfl) rfl ?_
      refine xi_iload_n (pc' := 1) (x := x2) kc_181_0 rfl rfl ?_
      refine xi_static (mj := 117) (as := [.int x2]) (st1 := []) (lv0 := [(0, .int x2)]) kc_181_1 rfl rfl (Nat.le_of_ble_eq_true rfl) rfl rfl (Nat.le_of_ble_eq_true rfl) (hJ _ _ _ _ (by decide)) (xm_le ml_117 rfl) rfl ?_
      refine xi_iload_n (pc' := 1) (x := x2) kc_117_0 rfl rfl ?_
      refine xi_iff (pc' := 4) kc_117_1 rfl (xc_lt_f (X := x2.toInt) (Y := 0) rfl (by decide) (by omega)) ?_
      refine xi_iload_n (pc' := 5) (x := x2) kc_117_4 rfl rfl ?_
      refine xi_iconst (pc' := 6) (v := 4) kc_117_5 rfl rfl ?_
      refine xi_cmf (pc' := 9) kc_117_6 rfl (xc_ge_f (X := x2.toInt) (Y := 4) rfl (by decide) (by omega)) ?_
      refine xi_iconst (pc' := 10) (v := 1) kc_117_9 rfl rfl ?_
      refine xi_goto (pc' := 14) kc_117_10 rfl ?_
      refine xi_ireturn kc_117_14 mr_117 rfl ?_
      show xw J ov (d + 1) 181 (4, [(0, .ref 85), (1, .int x1), (2, .int x2), (3, .int x3), (4, .int u20)], [.int 1], h) _
      refine xi_ift (pc' := 8) kc_181_4 rfl rfl ?_
      refine xi_iload_n (pc' := 9) (x := x1) kc_181_8 rfl rfl ?_
      by_cases c25 : x1.toInt = 0
      · refine xi_ift (pc' := 19) kc_181_9 rfl (xc_eq_t (X := x1.toInt) (Y := 0) rfl (by decide) (by omega)) ?_
        refine xi_aload_n (pc' := 20) (x := 85) kc_181_19 rfl rfl ?_
        refine xi_getfield (pc' := 23) (v := .ref 90) kc_181_20 rfl rfl rfl A24 rfl ?_
        refine xi_astore (pc' := 25) (lv' := [(5, .ref 90), (0, .ref 85), (1, .int x1), (2, .int x2), (3, .int x3), (4, .int u20)]) kc_181_23 rfl rfl (xm_lt ml_181 rfl) ?_
        refine xi_aload (pc' := 27) (x := 90) kc_181_25 rfl rfl ?_
        refine xi_iload_n (pc' := 28) (x := x2) kc_181_27 rfl rfl ?_
        refine xi_iload_n (pc' := 29) (x := x3) kc_181_28 rfl rfl ?_
        by_cases c26 : x3.toInt = 0
        · refine xi_ift (pc' := 36) kc_181_29 rfl (xc_eq_t (X := x3.toInt) (Y := 0) rfl (by decide) (by omega)) ?_
          refine xi_iconst (pc' := 37) (v := 2) kc_181_36 rfl rfl ?_
          refine xcps4 (xk_arr K.1 xD_90) (fun y27 A27 hy27 ry27 => ?_)
          refine xcps4 (xj_set (v := 2) hy27 ry27 x2 (by first | omega | decide) (by first | omega | decide)) (fun y28 s28 hy28 ry28 => ?_)
          refine xi_iastore (pc' := 38) (x' := y28) kc_181_37 rfl A27 rfl (xi_in (by omega) (by rw [hy27]; omega)) s28 (fun hh28 eh28 => ?_)
          have K29 := xk_pa K (xk_wa rfl) xD_90 hy28 ry28 eh28
          refine xi_iload_n (pc' := 39) (x := x3) kc_181_38 rfl rfl ?_
          refine xi_ift (pc' := 50) kc_181_39 rfl (xc_eq_t (X := x3.toInt) (Y := 0) rfl (by decide) (by omega)) ?_
          refine xi_return kc_181_50 mr_181 ?_
          show xw J ov (d + 2) 180 (28, [(0, .ref 0), (1, .int x1), (2, .int x2), (3, .int x3)], [], hh28) _
          refine xi_iconst (pc' := 29) (v := 1) kc_180_28 rfl rfl ?_
          refine xi_ireturn kc_180_29 mr_180 rfl ?_
          have zc1 : (1 : Int32).toInt = 1 := by decide
          exact kk 1 hh28 (by omega) K29
        · refine xi_iff (pc' := 32) kc_181_29 rfl (xc_eq_f (X := x3.toInt) (Y := 0) rfl (by decide) (by omega)) ?_
          refine xi_iconst (pc' := 33) (v := 1) kc_181_32 rfl rfl ?_
          refine xi_goto (pc' := 37) kc_181_33 rfl ?_
          refine xcps4 (xk_arr K.1 xD_90) (fun y30 A30 hy30 ry30 => ?_)
          refine xcps4 (xj_set (v := 1) hy30 ry30 x2 (by first | omega | decide) (by first | omega | decide)) (fun y31 s31 hy31 ry31 => ?_)
          refine xi_iastore (pc' := 38) (x' := y31) kc_181_37 rfl A30 rfl (xi_in (by omega) (by rw [hy30]; omega)) s31 (fun hh31 eh31 => ?_)
          have K32 := xk_pa K (xk_wa rfl) xD_90 hy31 ry31 eh31
          refine xi_iload_n (pc' := 39) (x := x3) kc_181_38 rfl rfl ?_
          refine xi_iff (pc' := 42) kc_181_39 rfl (xc_eq_f (X := x3.toInt) (Y := 0) rfl (by decide) (by omega)) ?_
          refine xi_aload_n (pc' := 43) (x := 85) kc_181_42 rfl rfl ?_
          have A33 := ((eh31.2.1 85 (by decide)).trans A24)
          refine xi_getfield (pc' := 46) (v := .ref 92) kc_181_43 rfl rfl rfl A33 rfl ?_
          refine xi_iload_n (pc' := 47) (x := x2) kc_181_46 rfl rfl ?_
          refine xi_iload (pc' := 49) (x := u20) kc_181_47 rfl rfl ?_
          refine xcps4 (xk_arr K32.1 xD_92) (fun y34 A34 hy34 ry34 => ?_)
          refine xcps4 (xj_set (v := u20) hy34 ry34 x2 (by first | omega | decide) (by first | omega | decide)) (fun y35 s35 hy35 ry35 => ?_)
          refine xi_iastore (pc' := 50) (x' := y35) kc_181_49 rfl A34 rfl (xi_in (by omega) (by rw [hy34]; omega)) s35 (fun hh35 eh35 => ?_)
          have K36 := xk_pa K32 (xk_wa rfl) xD_92 hy35 ry35 eh35
          refine xi_return kc_181_50 mr_181 ?_
          show xw J ov (d + 2) 180 (28, [(0, .ref 0), (1, .int x1), (2, .int x2), (3, .int x3)], [], hh35) _
          refine xi_iconst (pc' := 29) (v := 1) kc_180_28 rfl rfl ?_
          refine xi_ireturn kc_180_29 mr_180 rfl ?_
          have zc1 : (1 : Int32).toInt = 1 := by decide
          exact kk 1 hh35 (by omega) K36
      · refine xi_iff (pc' := 12) kc_181_9 rfl (xc_eq_f (X := x1.toInt) (Y := 0) rfl (by decide) (by omega)) ?_
        refine xi_aload_n (pc' := 13) (x := 85) kc_181_12 rfl rfl ?_
        refine xi_getfield (pc' := 16) (v := .ref 91) kc_181_13 rfl rfl rfl A24 rfl ?_
        refine xi_goto (pc' := 23) kc_181_16 rfl ?_
        refine xi_astore (pc' := 25) (lv' := [(5, .ref 91), (0, .ref 85), (1, .int x1), (2, .int x2), (3, .int x3), (4, .int u20)]) kc_181_23 rfl rfl (xm_lt ml_181 rfl) ?_
        refine xi_aload (pc' := 27) (x := 91) kc_181_25 rfl rfl ?_
        refine xi_iload_n (pc' := 28) (x := x2) kc_181_27 rfl rfl ?_
        refine xi_iload_n (pc' := 29) (x := x3) kc_181_28 rfl rfl ?_
        by_cases c37 : x3.toInt = 0
        · refine xi_ift (pc' := 36) kc_181_29 rfl (xc_eq_t (X := x3.toInt) (Y := 0) rfl (by decide) (by omega)) ?_
          refine xi_iconst (pc' := 37) (v := 2) kc_181_36 rfl rfl ?_
          refine xcps4 (xk_arr K.1 xD_91) (fun y38 A38 hy38 ry38 => ?_)
          refine xcps4 (xj_set (v := 2) hy38 ry38 x2 (by first | omega | decide) (by first | omega | decide)) (fun y39 s39 hy39 ry39 => ?_)
          refine xi_iastore (pc' := 38) (x' := y39) kc_181_37 rfl A38 rfl (xi_in (by omega) (by rw [hy38]; omega)) s39 (fun hh39 eh39 => ?_)
          have K40 := xk_pa K (xk_wa rfl) xD_91 hy39 ry39 eh39
          refine xi_iload_n (pc' := 39) (x := x3) kc_181_38 rfl rfl ?_
          refine xi_ift (pc' := 50) kc_181_39 rfl (xc_eq_t (X := x3.toInt) (Y := 0) rfl (by decide) (by omega)) ?_
          refine xi_return kc_181_50 mr_181 ?_
          show xw J ov (d + 2) 180 (28, [(0, .ref 0), (1, .int x1), (2, .int x2), (3, .int x3)], [], hh39) _
          refine xi_iconst (pc' := 29) (v := 1) kc_180_28 rfl rfl ?_
          refine xi_ireturn kc_180_29 mr_180 rfl ?_
          have zc1 : (1 : Int32).toInt = 1 := by decide
          exact kk 1 hh39 (by omega) K40
        · refine xi_iff (pc' := 32) kc_181_29 rfl (xc_eq_f (X := x3.toInt) (Y := 0) rfl (by decide) (by omega)) ?_
          refine xi_iconst (pc' := 33) (v := 1) kc_181_32 rfl rfl ?_
          refine xi_goto (pc' := 37) kc_181_33 rfl ?_
          refine xcps4 (xk_arr K.1 xD_91) (fun y41 A41 hy41 ry41 => ?_)
          refine xcps4 (xj_set (v := 1) hy41 ry41 x2 (by first | omega | decide) (by first | omega | decide)) (fun y42 s42 hy42 ry42 => ?_)
          refine xi_iastore (pc' := 38) (x' := y42) kc_181_37 rfl A41 rfl (xi_in (by omega) (by rw [hy41]; omega)) s42 (fun hh42 eh42 => ?_)
          have K43 := xk_pa K (xk_wa rfl) xD_91 hy42 ry42 eh42
          refine xi_iload_n (pc' := 39) (x := x3) kc_181_38 rfl rfl ?_
          refine xi_iff (pc' := 42) kc_181_39 rfl (xc_eq_f (X := x3.toInt) (Y := 0) rfl (by decide) (by omega)) ?_
          refine xi_aload_n (pc' := 43) (x := 85) kc_181_42 rfl rfl ?_
          have A44 := ((eh42.2.1 85 (by decide)).trans A24)
          refine xi_getfield (pc' := 46) (v := .ref 92) kc_181_43 rfl rfl rfl A44 rfl ?_
          refine xi_iload_n (pc' := 47) (x := x2) kc_181_46 rfl rfl ?_
          refine xi_iload (pc' := 49) (x := u20) kc_181_47 rfl rfl ?_
          refine xcps4 (xk_arr K43.1 xD_92) (fun y45 A45 hy45 ry45 => ?_)
          refine xcps4 (xj_set (v := u20) hy45 ry45 x2 (by first | omega | decide) (by first | omega | decide)) (fun y46 s46 hy46 ry46 => ?_)
          refine xi_iastore (pc' := 50) (x' := y46) kc_181_49 rfl A45 rfl (xi_in (by omega) (by rw [hy45]; omega)) s46 (fun hh46 eh46 => ?_)
          have K47 := xk_pa K43 (xk_wa rfl) xD_92 hy46 ry46 eh46
          refine xi_return kc_181_50 mr_181 ?_
          show xw J ov (d + 2) 180 (28, [(0, .ref 0), (1, .int x1), (2, .int x2), (3, .int x3)], [], hh46) _
          refine xi_iconst (pc' := 29) (v := 1) kc_180_28 rfl rfl ?_
          refine xi_ireturn kc_180_29 mr_180 rfl ?_
          have zc1 : (1 : Int32).toInt = 1 := by decide
          exact kk 1 hh46 (by omega) K47
