set_option maxHeartbeats 4000000 in
theorem mt_161_0 {J : xe_J} {ov : List (List Int32)} (hJ : ∀ d mj as h, mj ≠ xe_loff → J d mj as h = none) (hov1 : ov[1]? = some [10, 0, 0, 0, 0, 0]) (hov2 : ov[2]? = some [99, 30, 50, 50, 1, 99999]) {d : Nat} {Q : Option Value → xe_H → Prop} {h : xe_H} {w1 : Int64} (T : xt h) (kk : (∀ (r : Int32) (h' : xe_H), xk [(0, 9), (115, 1), (83, 0), (29, 0), (31, 0), (33, 0), (35, 0), (37, 0), (39, 0), (41, 0), (43, 0), (45, 0), (47, 0), (49, 0), (51, 0), (125, 0), (29, 2), (31, 2), (33, 2), (35, 2), (37, 2), (39, 2), (41, 2), (43, 2), (45, 2), (47, 2), (49, 2), (51, 2), (127, 0), (1, 5), (115, 23)] h h' → Q (some (.int r)) h')) : xw J ov (d + 12) 161 (0, [(0, .ref 75), (1, .long w1)], [], h) Q := by
  have K : xk [(0, 9), (115, 1), (83, 0), (29, 0), (31, 0), (33, 0), (35, 0), (37, 0), (39, 0), (41, 0), (43, 0), (45, 0), (47, 0), (49, 0), (51, 0), (125, 0), (29, 2), (31, 2), (33, 2), (35, 2), (37, 2), (39, 2), (41, 2), (43, 2), (45, 2), (47, 2), (49, 2), (51, 2), (127, 0), (1, 5), (115, 23)] h h := xk_re T
  refine xi_aload_n (pc' := 1) (x := 75) kc_161_0 rfl rfl ?_
  refine xp_75 K.1 (fun u1 bu1 A2 => ?_)
  refine xi_getfield (pc' := 4) (v := .ref 78) kc_161_1 rfl rfl rfl A2 rfl ?_
  refine xi_bipush (pc' := 6) (v := (-9)) kc_161_4 rfl rfl ?_
  refine xi_static (mj := 1) (as := [.ref 78, .int (-9)]) (st1 := []) (lv0 := [(0, .ref 78), (1, .int (-9))]) kc_161_6 rfl rfl (Nat.le_of_ble_eq_true rfl) rfl rfl (Nat.le_of_ble_eq_true rfl) (hJ _ _ _ _ (by decide)) (xm_le ml_1 rfl) rfl ?_
  refine xcps4 (xk_arr K.1 xD_78) (fun y3 A3 hy3 ry3 => ?_)
  refine xl_fill (N := 6561) (by decide) rfl (by decide) hy3 A3 (fun hh5 eh4 => ?_)
  have hy6 : (List.replicate 6561 ((-9) : Int32)).length = 6561 := List.length_replicate
  have ry6 := xj_fill (n := 6561) (v := (-9)) (lo := (-2147483648)) (hi := 2147483647) (by first | omega | decide) (by first | omega | decide)
  have K7 := xk_pa K (xk_wa rfl) xD_78 hy6 ry6 eh4
  show xw J ov (d + 12) 161 (9, [(0, .ref 75), (1, .long w1)], [], hh5) _
  refine xi_aload_n (pc' := 10) (x := 75) kc_161_9 rfl rfl ?_
  refine xi_lload_n (pc' := 11) (x := w1) kc_161_10 rfl rfl ?_
  refine xi_iconst (pc' := 12) (v := 0) kc_161_11 rfl rfl ?_
  refine xi_iconst (pc' := 13) (v := 0) kc_161_12 rfl rfl ?_
  have A8 := ((eh4.2.1 75 (by decide)).trans A2)
  refine xi_virtual (mj := 162) (as := [.long w1, .int 0, .int 0]) (st1 := []) (lv0 := [(0, .ref 75), (1, .long w1), (3, .int 0), (4, .int 0)]) kc_161_13 rfl rfl rfl rfl rfl A8 (Nat.le_of_ble_eq_true rfl) (hJ _ _ _ _ (by decide)) (xm_le ml_162 rfl) rfl ?_
  have zc0 : (0 : Int32).toInt = 0 := by decide
  refine mt_162_0 hJ hov1 hov2 (d := d) (w1 := w1) (x3 := 0) (x4 := 0) K7.1 (by first | omega | decide) (fun r9 hh10 K11 => ?_)
  have br9 := xc_rng r9
  have K12 := xk_tr K7 K11 rfl
  show xw J ov (d + 12) 161 (16, [(0, .ref 75), (1, .long w1)], [.int r9], hh10) _
  refine xi_ireturn kc_161_16 mr_161 rfl ?_
  exact kk r9 hh10 K12
set_option maxHeartbeats 4000000 in
theorem mt_160_0 {J : xe_J} {ov : List (List Int32)} (hJ : ∀ d mj as h, mj ≠ xe_loff → J d mj as h = none) (hov1 : ov[1]? = some [10, 0, 0, 0, 0, 0]) (hov2 : ov[2]? = some [99, 30, 50, 50, 1, 99999]) {d : Nat} {Q : Option Value → xe_H → Prop} {h : xe_H} (T : xt h) (kk : (∀ (r : Int32) (h' : xe_H), xk [(0, 9), (115, 1), (83, 0), (29, 0), (31, 0), (33, 0), (35, 0), (37, 0), (39, 0), (41, 0), (43, 0), (45, 0), (47, 0), (49, 0), (51, 0), (125, 0), (29, 2), (31, 2), (33, 2), (35, 2), (37, 2), (39, 2), (41, 2), (43, 2), (45, 2), (47, 2), (49, 2), (51, 2), (127, 0), (1, 5), (115, 23)] h h' → Q (some (.int r)) h')) : xw J ov (d + 13) 160 (0, [(0, .ref 0)], [], h) Q := by
  have K : xk [(0, 9), (115, 1), (83, 0), (29, 0), (31, 0), (33, 0), (35, 0), (37, 0), (39, 0), (41, 0), (43, 0), (45, 0), (47, 0), (49, 0), (51, 0), (125, 0), (29, 2), (31, 2), (33, 2), (35, 2), (37, 2), (39, 2), (41, 2), (43, 2), (45, 2), (47, 2), (49, 2), (51, 2), (127, 0), (1, 5), (115, 23)] h h := xk_re T
  refine xi_aload_n (pc' := 1) (x := 0) kc_160_0 rfl rfl ?_
  refine xp_0 K.1 (fun u1 u2 bu1 bu2 A3 => ?_)
  refine xi_getfield (pc' := 4) (v := .ref 75) kc_160_1 rfl rfl rfl A3 rfl ?_
  refine xi_aload_n (pc' := 5) (x := 0) kc_160_4 rfl rfl ?_
  refine xi_virtual (mj := 152) (as := []) (st1 := [.ref 75]) (lv0 := [(0, .ref 0)]) kc_160_5 rfl rfl rfl rfl rfl A3 (Nat.le_of_ble_eq_true rfl) (hJ _ _ _ _ (by decide)) (xm_le ml_152 rfl) rfl ?_
  refine mt_152_0 hJ hov1 hov2 (d := d + 5)  K.1 (fun r4 hh5 K6 => ?_)
  have K7 := xk_tr K K6 rfl
  refine xp_0 K7.1 (fun u8 u9 bu8 bu9 A10 => ?_)
  have e11 : u2 = u9 := xk_eqi (q := 9) K6 rfl A3 A10 rfl rfl
  subst e11
  show xw J ov (d + 13) 160 (8, [(0, .ref 0)], [.long r4, .ref 75], hh5) _
  refine xp_75 K7.1 (fun u12 bu12 A13 => ?_)
  refine xi_virtual (mj := 161) (as := [.long r4]) (st1 := []) (lv0 := [(0, .ref 75), (1, .long r4)]) kc_160_8 rfl rfl rfl rfl rfl A13 (Nat.le_of_ble_eq_true rfl) (hJ _ _ _ _ (by decide)) (xm_le ml_161 rfl) rfl ?_
  refine mt_161_0 hJ hov1 hov2 (d := d) (w1 := r4) K7.1 (fun r14 hh15 K16 => ?_)
  have br14 := xc_rng r14
  have K17 := xk_tr K7 K16 rfl
  refine xp_0 K17.1 (fun u18 u19 bu18 bu19 A20 => ?_)
  have e21 : u2 = u19 := xk_eqi (q := 9) K16 rfl A10 A20 rfl rfl
  subst e21
  show xw J ov (d + 13) 160 (11, [(0, .ref 0)], [.int r14], hh15) _
  refine xi_ireturn kc_160_11 mr_160 rfl ?_
  exact kk r14 hh15 K17
set_option maxHeartbeats 4000000 in
theorem lp_164_0 {J : xe_J} {ov : List (List Int32)} (hJ : ∀ d mj as h, mj ≠ xe_loff → J d mj as h = none) (hov1 : ov[1]? = some [10, 0, 0, 0, 0, 0]) (hov2 : ov[2]? = some [99, 30, 50, 50, 1, 99999]) {d : Nat} {Q : Option Value → xe_H → Prop} {hb : xe_H} (kk : (∀ (r : Int32) (h' : xe_H), (0 ≤ r.toInt ∧ r.toInt ≤ 1) → xk [(0, 9), (115, 1), (83, 0), (29, 0), (31, 0), (33, 0), (35, 0), (37, 0), (39, 0), (41, 0), (43, 0), (45, 0), (47, 0), (49, 0), (51, 0), (125, 0), (29, 2), (31, 2), (33, 2), (35, 2), (37, 2), (39, 2), (41, 2), (43, 2), (45, 2), (47, 2), (49, 2), (51, 2), (127, 0), (1, 5), (115, 23)] hb h' → Q (some (.int r)) h')) : ∀ m : Nat, (∀ (x1 : Int32) (x2 : Int32) (x3 : Int32) (x4 : Int32) (h : xe_H), (0 ≤ x1.toInt ∧ x1.toInt ≤ 5) → (0 ≤ x4.toInt ∧ x4.toInt ≤ 20) → xk [(0, 9), (115, 1), (83, 0), (29, 0), (31, 0), (33, 0), (35, 0), (37, 0), (39, 0), (41, 0), (43, 0), (45, 0), (47, 0), (49, 0), (51, 0), (125, 0), (29, 2), (31, 2), (33, 2), (35, 2), (37, 2), (39, 2), (41, 2), (43, 2), (45, 2), (47, 2), (49, 2), (51, 2), (127, 0), (1, 5), (115, 23)] hb h → (-1) * x4.toInt + 20 < (m : Int) → xw J ov (d + 1) 164 (3, [(0, .ref 0), (1, .int x1), (2, .int x2), (3, .int x3), (4, .int x4)], [], h) Q) := by
  intro m
  induction m with
  | zero =>
    intro x1 x2 x3 x4 h b1 b4 K hm; have rx2 := xc_rng x2; have rx3 := xc_rng x3; exfalso; omega
  | succ m ih =>
    have i0 := ih
    intro x1 x2 x3 x4 h b1 b4 K hm
    have rx2 := xc_rng x2
    have rx3 := xc_rng x3
    refine xi_iload (pc' := 5) (x := x4) kc_164_3 rfl rfl ?_
    refine xi_aload_n (pc' := 6) (x := 0) kc_164_5 rfl rfl ?_
    refine xp_0 K.1 (fun u1 u2 bu1 bu2 A3 => ?_)
    refine xi_getfield (pc' := 9) (v := .int u1) kc_164_6 rfl rfl rfl A3 rfl ?_
    by_cases c4 : u1.toInt ≤ x4.toInt
    · refine xi_cmt (pc' := 68) kc_164_9 rfl (xc_ge_t (X := x4.toInt) (Y := u1.toInt) rfl rfl (by omega)) ?_
      refine xi_iconst (pc' := 69) (v := 0) kc_164_68 rfl rfl ?_
      refine xi_ireturn kc_164_69 mr_164 rfl ?_
      have zc0 : (0 : Int32).toInt = 0 := by decide
      exact kk 0 h (by omega) K
    · refine xi_cmf (pc' := 12) kc_164_9 rfl (xc_ge_f (X := x4.toInt) (Y := u1.toInt) rfl rfl (by omega)) ?_
      refine xi_iload (pc' := 14) (x := x4) kc_164_12 rfl rfl ?_
      refine xi_bipush (pc' := 16) (v := 20) kc_164_14 rfl rfl ?_
      refine xi_cmf (pc' := 19) kc_164_16 rfl (xc_ge_f (X := x4.toInt) (Y := 20) rfl (by decide) (by omega)) ?_
      refine xi_aload_n (pc' := 20) (x := 0) kc_164_19 rfl rfl ?_
      refine xi_getfield (pc' := 23) (v := .ref 93) kc_164_20 rfl rfl rfl A3 rfl ?_
      refine xi_iload (pc' := 25) (x := x4) kc_164_23 rfl rfl ?_
      have A5 := xk_ex K.1 xD_93
      obtain ⟨pt6, ept6, mpt6⟩ := xR_93 (i := x4) (by omega) (by omega)
      refine xj_aaload (pc' := 26) (b := pt6) kc_164_25 rfl A5 rfl (xi_in (n := 20) (by omega) (by omega)) ept6 ?_
      refine xi_astore (pc' := 28) (lv' := [(5, .ref pt6), (0, .ref 0), (1, .int x1), (2, .int x2), (3, .int x3), (4, .int x4)]) kc_164_26 rfl rfl (xm_lt ml_164 rfl) ?_
      refine xi_iload_n (pc' := 29) (x := x2) kc_164_28 rfl rfl ?_
      refine xi_iload_n (pc' := 30) (x := x3) kc_164_29 rfl rfl ?_
      by_cases c7 : x3.toInt ≤ x2.toInt
      · refine xi_cmt (pc' := 62) kc_164_30 rfl (xc_ge_t (X := x2.toInt) (Y := x3.toInt) rfl rfl (by omega)) ?_
        refine xcps2 (α := Int32) (x4 + 1) (fun v8 ev8 => ?_)
        have zv8 : v8.toInt = (x4.toInt + 1) := by rw [← ev8]; exact (xz_add (X := x4.toInt) (Y := 1) rfl (by decide) (by omega) (by omega)).trans (by omega)
        refine xi_iinc (pc' := 65) (x := x4) (v := v8) (lv' := [(4, .int v8), (5, .ref pt6), (0, .ref 0), (1, .int x1), (2, .int x2), (3, .int x3)]) kc_164_62 rfl rfl ev8 rfl (xm_lt ml_164 rfl) ?_
        refine xi_goto (pc' := 3) kc_164_65 rfl ?_
        refine xw_lv (b := [(0, .ref 0), (1, .int x1), (2, .int x2), (3, .int x3), (4, .int v8)]) (lvS_cons (lvS_cons (lvS_cons (lvS_cons (lvS_cons (lvS_nil (show ([4, 5, 0, 1, 2, 3] : List Nat).Nodup by decide)) rfl) rfl) rfl) rfl) rfl) ?_
        exact i0 x1 x2 x3 v8 h (by omega) (by omega) K (by omega)
      · refine xi_cmf (pc' := 33) kc_164_30 rfl (xc_ge_f (X := x2.toInt) (Y := x3.toInt) rfl rfl (by omega)) ?_
        refine xi_aload (pc' := 35) (x := pt6) kc_164_33 rfl rfl ?_
        obtain ⟨u9, u10, u11, u12, u13, u14, bu9, bu10, bu11, bu12, bu13, bu14, A15⟩ := xg_trial K.1 mpt6
        refine xi_getfield (pc' := 38) (v := .int u9) kc_164_35 rfl rfl rfl A15 rfl ?_
        refine xi_iload_n (pc' := 39) (x := x1) kc_164_38 rfl rfl ?_
        by_cases c16 : u9.toInt = x1.toInt
        · refine xi_cmf (pc' := 42) kc_164_39 rfl (xc_ne_f (X := u9.toInt) (Y := x1.toInt) rfl rfl (by omega)) ?_
          refine xi_iload_n (pc' := 43) (x := x2) kc_164_42 rfl rfl ?_
          refine xi_aload (pc' := 45) (x := pt6) kc_164_43 rfl rfl ?_
          refine xi_getfield (pc' := 48) (v := .int u13) kc_164_45 rfl rfl rfl A15 rfl ?_
          by_cases c17 : u13.toInt ≤ x2.toInt
          · refine xi_cmt (pc' := 62) kc_164_48 rfl (xc_ge_t (X := x2.toInt) (Y := u13.toInt) rfl rfl (by omega)) ?_
            refine xcps2 (α := Int32) (x4 + 1) (fun v18 ev18 => ?_)
            have zv18 : v18.toInt = (x4.toInt + 1) := by rw [← ev18]; exact (xz_add (X := x4.toInt) (Y := 1) rfl (by decide) (by omega) (by omega)).trans (by omega)
            refine xi_iinc (pc' := 65) (x := x4) (v := v18) (lv' := [(4, .int v18), (5, .ref pt6), (0, .ref 0), (1, .int x1), (2, .int x2), (3, .int x3)]) kc_164_62 rfl rfl ev18 rfl (xm_lt ml_164 rfl) ?_
            refine xi_goto (pc' := 3) kc_164_65 rfl ?_
            refine xw_lv (b := [(0, .ref 0), (1, .int x1), (2, .int x2), (3, .int x3), (4, .int v18)]) (lvS_cons (lvS_cons (lvS_cons (lvS_cons (lvS_cons (lvS_nil (show ([4, 5, 0, 1, 2, 3] : List Nat).Nodup by decide)) rfl) rfl) rfl) rfl) rfl) ?_
            exact i0 x1 x2 x3 v18 h (by omega) (by omega) K (by omega)
          · refine xi_cmf (pc' := 51) kc_164_48 rfl (xc_ge_f (X := x2.toInt) (Y := u13.toInt) rfl rfl (by omega)) ?_
            refine xi_aload (pc' := 53) (x := pt6) kc_164_51 rfl rfl ?_
            refine xi_getfield (pc' := 56) (v := .int u12) kc_164_53 rfl rfl rfl A15 rfl ?_
            refine xi_iload_n (pc' := 57) (x := x3) kc_164_56 rfl rfl ?_
            by_cases c19 : x3.toInt ≤ u12.toInt
            · refine xi_cmt (pc' := 62) kc_164_57 rfl (xc_ge_t (X := u12.toInt) (Y := x3.toInt) rfl rfl (by omega)) ?_
              refine xcps2 (α := Int32) (x4 + 1) (fun v20 ev20 => ?_)
              have zv20 : v20.toInt = (x4.toInt + 1) := by rw [← ev20]; exact (xz_add (X := x4.toInt) (Y := 1) rfl (by decide) (by omega) (by omega)).trans (by omega)
              refine xi_iinc (pc' := 65) (x := x4) (v := v20) (lv' := [(4, .int v20), (5, .ref pt6), (0, .ref 0), (1, .int x1), (2, .int x2), (3, .int x3)]) kc_164_62 rfl rfl ev20 rfl (xm_lt ml_164 rfl) ?_
              refine xi_goto (pc' := 3) kc_164_65 rfl ?_
              refine xw_lv (b := [(0, .ref 0), (1, .int x1), (2, .int x2), (3, .int x3), (4, .int v20)]) (lvS_cons (lvS_cons (lvS_cons (lvS_cons (lvS_cons (lvS_nil (show ([4, 5, 0, 1, 2, 3] : List Nat).Nodup by decide)) rfl) rfl) rfl) rfl) rfl) ?_
              exact i0 x1 x2 x3 v20 h (by omega) (by omega) K (by omega)
            · refine xi_cmf (pc' := 60) kc_164_57 rfl (xc_ge_f (X := u12.toInt) (Y := x3.toInt) rfl rfl (by omega)) ?_
              refine xi_iconst (pc' := 61) (v := 1) kc_164_60 rfl rfl ?_
              refine xi_ireturn kc_164_61 mr_164 rfl ?_
              have zc1 : (1 : Int32).toInt = 1 := by decide
              exact kk 1 h (by omega) K
        · refine xi_cmt (pc' := 62) kc_164_39 rfl (xc_ne_t (X := u9.toInt) (Y := x1.toInt) rfl rfl (by omega)) ?_
          refine xcps2 (α := Int32) (x4 + 1) (fun v21 ev21 => ?_)
          have zv21 : v21.toInt = (x4.toInt + 1) := by rw [← ev21]; exact (xz_add (X := x4.toInt) (Y := 1) rfl (by decide) (by omega) (by omega)).trans (by omega)
          refine xi_iinc (pc' := 65) (x := x4) (v := v21) (lv' := [(4, .int v21), (5, .ref pt6), (0, .ref 0), (1, .int x1), (2, .int x2), (3, .int x3)]) kc_164_62 rfl rfl ev21 rfl (xm_lt ml_164 rfl) ?_
          refine xi_goto (pc' := 3) kc_164_65 rfl ?_
          refine xw_lv (b := [(0, .ref 0), (1, .int x1), (2, .int x2), (3, .int x3), (4, .int v21)]) (lvS_cons (lvS_cons (lvS_cons (lvS_cons (lvS_cons (lvS_nil (show ([4, 5, 0, 1, 2, 3] : List Nat).Nodup by decide)) rfl) rfl) rfl) rfl) rfl) ?_
          exact i0 x1 x2 x3 v21 h (by omega) (by omega) K (by omega)
set_option maxHeartbeats 4000000 in
theorem mt_164_0 {J : xe_J} {ov : List (List Int32)} (hJ : ∀ d mj as h, mj ≠ xe_loff → J d mj as h = none) (hov1 : ov[1]? = some [10, 0, 0, 0, 0, 0]) (hov2 : ov[2]? = some [99, 30, 50, 50, 1, 99999]) {d : Nat} {Q : Option Value → xe_H → Prop} {h : xe_H} {x1 : Int32} {x2 : Int32} {x3 : Int32} (T : xt h) (b1 : (0 ≤ x1.toInt ∧ x1.toInt ≤ 5)) (kk : (∀ (r : Int32) (h' : xe_H), (0 ≤ r.toInt ∧ r.toInt ≤ 1) → xk [(0, 9), (115, 1), (83, 0), (29, 0), (31, 0), (33, 0), (35, 0), (37, 0), (39, 0), (41, 0), (43, 0), (45, 0), (47, 0), (49, 0), (51, 0), (125, 0), (29, 2), (31, 2), (33, 2), (35, 2), (37, 2), (39, 2), (41, 2), (43, 2), (45, 2), (47, 2), (49, 2), (51, 2), (127, 0), (1, 5), (115, 23)] h h' → Q (some (.int r)) h')) : xw J ov (d + 1) 164 (0, [(0, .ref 0), (1, .int x1), (2, .int x2), (3, .int x3)], [], h) Q := by
  have K : xk [(0, 9), (115, 1), (83, 0), (29, 0), (31, 0), (33, 0), (35, 0), (37, 0), (39, 0), (41, 0), (43, 0), (45, 0), (47, 0), (49, 0), (51, 0), (125, 0), (29, 2), (31, 2), (33, 2), (35, 2), (37, 2), (39, 2), (41, 2), (43, 2), (45, 2), (47, 2), (49, 2), (51, 2), (127, 0), (1, 5), (115, 23)] h h := xk_re T
  have rx2 := xc_rng x2
  have rx3 := xc_rng x3
  refine xi_iconst (pc' := 1) (v := 0) kc_164_0 rfl rfl ?_
  refine xi_istore (pc' := 3) (lv' := [(4, .int 0), (0, .ref 0), (1, .int x1), (2, .int x2), (3, .int x3)]) kc_164_1 rfl rfl (xm_lt ml_164 rfl) ?_
  have zc0 : (0 : Int32).toInt = 0 := by decide
  refine xw_lv (b := [(0, .ref 0), (1, .int x1), (2, .int x2), (3, .int x3), (4, .int 0)]) (lvS_cons (lvS_cons (lvS_cons (lvS_cons (lvS_cons (lvS_nil (show ([4, 0, 1, 2, 3] : List Nat).Nodup by decide)) rfl) rfl) rfl) rfl) rfl) ?_
  exact (lp_164_0 hJ hov1 hov2 (d := d) (hb := h) (fun r9 h9 b9 K9 => kk r9 h9 b9 (xk_tr K K9 rfl)) 21) x1 x2 x3 0 h (by omega) (by omega) (xk_re K.1) (by omega)
set_option maxHeartbeats 4000000 in
theorem mt_163_0 {J : xe_J} {ov : List (List Int32)} (hJ : ∀ d mj as h, mj ≠ xe_loff → J d mj as h = none) (hov1 : ov[1]? = some [10, 0, 0, 0, 0, 0]) (hov2 : ov[2]? = some [99, 30, 50, 50, 1, 99999]) {d : Nat} {Q : Option Value → xe_H → Prop} {h : xe_H} {x1 : Int32} {x2 : Int32} {x3 : Int32} {x4 : Int32} {x5 : Int32} (T : xt h) (kk : (∀ (r : Int32) (h' : xe_H), ((-6) ≤ r.toInt ∧ r.toInt ≤ 19) → xk [(0, 9), (115, 1), (83, 0), (29, 0), (31, 0), (33, 0), (35, 0), (37, 0), (39, 0), (41, 0), (43, 0), (45, 0), (47, 0), (49, 0), (51, 0), (125, 0), (29, 2), (31, 2), (33, 2), (35, 2), (37, 2), (39, 2), (41, 2), (43, 2), (45, 2), (47, 2), (49, 2), (51, 2), (127, 0), (1, 5), (115, 23)] h h' → Q (some (.int r)) h')) : xw J ov (d + 2) 163 (0, [(0, .ref 0), (1, .int x1), (2, .int x2), (3, .int x3), (4, .int x4), (5, .int x5)], [], h) Q := by
  have K : xk [(0, 9), (115, 1), (83, 0), (29, 0), (31, 0), (33, 0), (35, 0), (37, 0), (39, 0), (41, 0), (43, 0), (45, 0), (47, 0), (49, 0), (51, 0), (125, 0), (29, 2), (31, 2), (33, 2), (35, 2), (37, 2), (39, 2), (41, 2), (43, 2), (45, 2), (47, 2), (49, 2), (51, 2), (127, 0), (1, 5), (115, 23)] h h := xk_re T
  have rx1 := xc_rng x1
  have rx2 := xc_rng x2
  have rx3 := xc_rng x3
  have rx4 := xc_rng x4
  have rx5 := xc_rng x5
  refine xi_iload_n (pc' := 1) (x := x1) kc_163_0 rfl rfl ?_
  refine xi_static (mj := 89) (as := [.int x1]) (st1 := []) (lv0 := [(0, .int x1)]) kc_163_1 rfl rfl (Nat.le_of_ble_eq_true rfl) rfl rfl (Nat.le_of_ble_eq_true rfl) (hJ _ _ _ _ (by decide)) (xm_le ml_89 rfl) rfl ?_
  refine xi_iload_n (pc' := 1) (x := x1) kc_89_0 rfl rfl ?_
  by_cases c1 : x1.toInt < 0
  · refine xi_ift (pc' := 14) kc_89_1 rfl (xc_lt_t (X := x1.toInt) (Y := 0) rfl (by decide) (by omega)) ?_
    refine xi_iconst (pc' := 15) (v := 0) kc_89_14 rfl rfl ?_
    refine xi_ireturn kc_89_15 mr_89 rfl ?_
    show xw J ov (d + 2) 163 (4, [(0, .ref 0), (1, .int x1), (2, .int x2), (3, .int x3), (4, .int x4), (5, .int x5)], [.int 0], h) _
    refine xi_iff (pc' := 7) kc_163_4 rfl rfl ?_
    refine xi_aload_n (pc' := 8) (x := 0) kc_163_7 rfl rfl ?_
    refine xi_iconst (pc' := 9) (v := (-1)) kc_163_8 rfl rfl ?_
    refine xp_0 K.1 (fun u2 u3 bu2 bu3 A4 => ?_)
    refine xi_virtual (mj := 90) (as := [.int (-1)]) (st1 := []) (lv0 := [(0, .ref 0), (1, .int (-1))]) kc_163_9 rfl rfl rfl rfl rfl A4 (Nat.le_of_ble_eq_true rfl) (hJ _ _ _ _ (by decide)) (xm_le ml_90 rfl) rfl ?_
    refine xi_iload_n (pc' := 1) (x := (-1)) kc_90_0 rfl rfl ?_
    refine xi_ineg (pc' := 2) (v := 1) kc_90_1 rfl rfl ?_
    refine xi_istore_n (pc' := 3) (lv' := [(2, .int 1), (0, .ref 0), (1, .int (-1))]) kc_90_2 rfl rfl (xm_lt ml_90 rfl) ?_
    refine xi_iload_n (pc' := 4) (x := 1) kc_90_3 rfl rfl ?_
    refine xi_iff (pc' := 7) kc_90_4 rfl rfl ?_
    refine xi_iload_n (pc' := 8) (x := 1) kc_90_7 rfl rfl ?_
    refine xi_aload_n (pc' := 9) (x := 0) kc_90_8 rfl rfl ?_
    refine xi_getfield (pc' := 12) (v := .ref 94) kc_90_9 rfl rfl rfl A4 rfl ?_
    refine xcps4 (xk_arr K.1 xD_94) (fun y5 A5 hy5 ry5 => ?_)
    refine xi_arraylength (pc' := 13) (n := 7) (v := 7) kc_90_12 rfl (xl_lenI (by decide) (by decide) A5 hy5) rfl ?_
    refine xi_cmf (pc' := 16) kc_90_13 rfl rfl ?_
    refine xi_aload_n (pc' := 17) (x := 0) kc_90_16 rfl rfl ?_
    refine xi_getfield (pc' := 20) (v := .ref 94) kc_90_17 rfl rfl rfl A4 rfl ?_
    refine xi_iload_n (pc' := 21) (x := 1) kc_90_20 rfl rfl ?_
    refine xi_dup2 (pc' := 22) kc_90_21 rfl ⟨rfl, rfl⟩ ?_
    refine xcps4 (xj_get hy5 ry5 (i := 1) (by decide) (by decide)) (fun v6 ev6 bv6 dv6 => ?_)
    refine xi_iaload (pc' := 23) (v := v6) kc_90_22 rfl A5 (by decide) rfl (xi_in (by decide) (by rw [hy5]; decide)) ev6 ?_
    refine xi_iconst (pc' := 24) (v := 1) kc_90_23 rfl rfl ?_
    refine xcps2 (α := Int32) ((v6 : Int32) + 1) (fun v7 ev7 => ?_)
    have rv7 := xc_rng v7
    refine xi_iadd (pc' := 25) (v := v7) kc_90_24 rfl ev7 ?_
    refine xcps4 (xj_set (v := v7) hy5 ry5 1 (by first | omega | decide) (by first | omega | decide)) (fun y8 s8 hy8 ry8 => ?_)
    refine xi_iastore (pc' := 26) (x' := y8) kc_90_25 rfl A5 rfl (xi_in (by decide) (by rw [hy5]; decide)) s8 (fun hh8 eh8 => ?_)
    have K9 := xk_pa K (xk_wa rfl) xD_94 hy8 ry8 eh8
    refine xi_iload_n (pc' := 27) (x := (-1)) kc_90_26 rfl rfl ?_
    refine xi_ireturn kc_90_27 mr_90 rfl ?_
    show xw J ov (d + 2) 163 (12, [(0, .ref 0), (1, .int x1), (2, .int x2), (3, .int x3), (4, .int x4), (5, .int x5)], [.int (-1)], hh8) _
    refine xi_ireturn kc_163_12 mr_163 rfl ?_
    have zcm1 : ((-1) : Int32).toInt = (-1) := by decide
    exact kk (-1) hh8 (by omega) K9
  · refine xi_iff (pc' := 4) kc_89_1 rfl (xc_lt_f (X := x1.toInt) (Y := 0) rfl (by decide) (by omega)) ?_
    refine xi_iload_n (pc' := 5) (x := x1) kc_89_4 rfl rfl ?_
    refine xi_bipush (pc' := 7) (v := 6) kc_89_5 rfl rfl ?_
    by_cases c10 : 6 ≤ x1.toInt
    · refine xi_cmt (pc' := 14) kc_89_7 rfl (xc_ge_t (X := x1.toInt) (Y := 6) rfl (by decide) (by omega)) ?_
      refine xi_iconst (pc' := 15) (v := 0) kc_89_14 rfl rfl ?_
      refine xi_ireturn kc_89_15 mr_89 rfl ?_
      show xw J ov (d + 2) 163 (4, [(0, .ref 0), (1, .int x1), (2, .int x2), (3, .int x3), (4, .int x4), (5, .int x5)], [.int 0], h) _
      refine xi_iff (pc' := 7) kc_163_4 rfl rfl ?_
      refine xi_aload_n (pc' := 8) (x := 0) kc_163_7 rfl rfl ?_
      refine xi_iconst (pc' := 9) (v := (-1)) kc_163_8 rfl rfl ?_
      refine xp_0 K.1 (fun u11 u12 bu11 bu12 A13 => ?_)
      refine xi_virtual (mj := 90) (as := [.int (-1)]) (st1 := []) (lv0 := [(0, .ref 0), (1, .int (-1))]) kc_163_9 rfl rfl rfl rfl rfl A13 (Nat.le_of_ble_eq_true rfl) (hJ _ _ _ _ (by decide)) (xm_le ml_90 rfl) rfl ?_
      refine xi_iload_n (pc' := 1) (x := (-1)) kc_90_0 rfl rfl ?_
      refine xi_ineg (pc' := 2) (v := 1) kc_90_1 rfl rfl ?_
      refine xi_istore_n (pc' := 3) (lv' := [(2, .int 1), (0, .ref 0), (1, .int (-1))]) kc_90_2 rfl rfl (xm_lt ml_90 rfl) ?_
      refine xi_iload_n (pc' := 4) (x := 1) kc_90_3 rfl rfl ?_
      refine xi_iff (pc' := 7) kc_90_4 rfl rfl ?_
      refine xi_iload_n (pc' := 8) (x := 1) kc_90_7 rfl rfl ?_
      refine xi_aload_n (pc' := 9) (x := 0) kc_90_8 rfl rfl ?_
      refine xi_getfield (pc' := 12) (v := .ref 94) kc_90_9 rfl rfl rfl A13 rfl ?_
      refine xcps4 (xk_arr K.1 xD_94) (fun y14 A14 hy14 ry14 => ?_)
      refine xi_arraylength (pc' := 13) (n := 7) (v := 7) kc_90_12 rfl (xl_lenI (by decide) (by decide) A14 hy14) rfl ?_
      refine xi_cmf (pc' := 16) kc_90_13 rfl rfl ?_
      refine xi_aload_n (pc' := 17) (x := 0) kc_90_16 rfl rfl ?_
      refine xi_getfield (pc' := 20) (v := .ref 94) kc_90_17 rfl rfl rfl A13 rfl ?_
      refine xi_iload_n (pc' := 21) (x := 1) kc_90_20 rfl rfl ?_
      refine xi_dup2 (pc' := 22) kc_90_21 rfl ⟨rfl, rfl⟩ ?_
      refine xcps4 (xj_get hy14 ry14 (i := 1) (by decide) (by decide)) (fun v15 ev15 bv15 dv15 => ?_)
      refine xi_iaload (pc' := 23) (v := v15) kc_90_22 rfl A14 (by decide) rfl (xi_in (by decide) (by rw [hy14]; decide)) ev15 ?_
      refine xi_iconst (pc' := 24) (v := 1) kc_90_23 rfl rfl ?_
      refine xcps2 (α := Int32) ((v15 : Int32) + 1) (fun v16 ev16 => ?_)
      have rv16 := xc_rng v16
      refine xi_iadd (pc' := 25) (v := v16) kc_90_24 rfl ev16 ?_
      refine xcps4 (xj_set (v := v16) hy14 ry14 1 (by first | omega | decide) (by first | omega | decide)) (fun y17 s17 hy17 ry17 => ?_)
      refine xi_iastore (pc' := 26) (x' := y17) kc_90_25 rfl A14 rfl (xi_in (by decide) (by rw [hy14]; decide)) s17 (fun hh17 eh17 => ?_)
      have K18 := xk_pa K (xk_wa rfl) xD_94 hy17 ry17 eh17
      refine xi_iload_n (pc' := 27) (x := (-1)) kc_90_26 rfl rfl ?_
      refine xi_ireturn kc_90_27 mr_90 rfl ?_
      show xw J ov (d + 2) 163 (12, [(0, .ref 0), (1, .int x1), (2, .int x2), (3, .int x3), (4, .int x4), (5, .int x5)], [.int (-1)], hh17) _
      refine xi_ireturn kc_163_12 mr_163 rfl ?_
      have zcm1 : ((-1) : Int32).toInt = (-1) := by decide
      exact kk (-1) hh17 (by omega) K18
    · refine xi_cmf (pc' := 10) kc_89_7 rfl (xc_ge_f (X := x1.toInt) (Y := 6) rfl (by decide) (by omega)) ?_
      refine xi_iconst (pc' := 11) (v := 1) kc_89_10 rfl rfl ?_
      refine xi_goto (pc' := 15) kc_89_11 rfl ?_
      refine xi_ireturn kc_89_15 mr_89 rfl ?_
      show xw J ov (d + 2) 163 (4, [(0, .ref 0), (1, .int x1), (2, .int x2), (3, .int x3), (4, .int x4), (5, .int x5)], [.int 1], h) _
      refine xi_ift (pc' := 13) kc_163_4 rfl rfl ?_
      refine xi_iload_n (pc' := 14) (x := x2) kc_163_13 rfl rfl ?_
      by_cases c19 : x2.toInt = 0
      · refine xi_ift (pc' := 29) kc_163_14 rfl (xc_eq_t (X := x2.toInt) (Y := 0) rfl (by decide) (by omega)) ?_
        refine xi_aload_n (pc' := 30) (x := 0) kc_163_29 rfl rfl ?_
        refine xi_iload_n (pc' := 31) (x := x1) kc_163_30 rfl rfl ?_
        refine xi_iload (pc' := 33) (x := x4) kc_163_31 rfl rfl ?_
        refine xi_iload (pc' := 35) (x := x5) kc_163_33 rfl rfl ?_
        refine xp_0 K.1 (fun u20 u21 bu20 bu21 A22 => ?_)
        refine xi_virtual (mj := 164) (as := [.int x1, .int x4, .int x5]) (st1 := []) (lv0 := [(0, .ref 0), (1, .int x1), (2, .int x4), (3, .int x5)]) kc_163_35 rfl rfl rfl rfl rfl A22 (Nat.le_of_ble_eq_true rfl) (hJ _ _ _ _ (by decide)) (xm_le ml_164 rfl) rfl ?_
        refine mt_164_0 hJ hov1 hov2 (d := d) (x1 := x1) (x2 := x4) (x3 := x5) K.1 (by first | omega | decide) (fun r23 hh24 br23 K25 => ?_)
        have K26 := xk_tr K K25 rfl
        refine xp_0 K26.1 (fun u27 u28 bu27 bu28 A29 => ?_)
        have e30 : u21 = u28 := xk_eqi (q := 9) K25 rfl A22 A29 rfl rfl
        subst e30
        show xw J ov (d + 2) 163 (38, [(0, .ref 0), (1, .int x1), (2, .int x2), (3, .int x3), (4, .int x4), (5, .int x5)], [.int r23], hh24) _
        by_cases c31 : r23.toInt = 0
        · refine xi_ift (pc' := 48) kc_163_38 rfl (xc_eq_t (X := r23.toInt) (Y := 0) rfl (by decide) (by omega)) ?_
          refine xi_iload_n (pc' := 49) (x := x3) kc_163_48 rfl rfl ?_
          by_cases c32 : x3.toInt < 0
          · refine xi_ift (pc' := 68) kc_163_49 rfl (xc_lt_t (X := x3.toInt) (Y := 0) rfl (by decide) (by omega)) ?_
            refine xi_aload_n (pc' := 69) (x := 0) kc_163_68 rfl rfl ?_
            refine xi_bipush (pc' := 71) (v := (-4)) kc_163_69 rfl rfl ?_
            refine xi_virtual (mj := 90) (as := [.int (-4)]) (st1 := []) (lv0 := [(0, .ref 0), (1, .int (-4))]) kc_163_71 rfl rfl rfl rfl rfl A29 (Nat.le_of_ble_eq_true rfl) (hJ _ _ _ _ (by decide)) (xm_le ml_90 rfl) rfl ?_
            refine xi_iload_n (pc' := 1) (x := (-4)) kc_90_0 rfl rfl ?_
            refine xi_ineg (pc' := 2) (v := 4) kc_90_1 rfl rfl ?_
            refine xi_istore_n (pc' := 3) (lv' := [(2, .int 4), (0, .ref 0), (1, .int (-4))]) kc_90_2 rfl rfl (xm_lt ml_90 rfl) ?_
            refine xi_iload_n (pc' := 4) (x := 4) kc_90_3 rfl rfl ?_
            refine xi_iff (pc' := 7) kc_90_4 rfl rfl ?_
            refine xi_iload_n (pc' := 8) (x := 4) kc_90_7 rfl rfl ?_
            refine xi_aload_n (pc' := 9) (x := 0) kc_90_8 rfl rfl ?_
            refine xi_getfield (pc' := 12) (v := .ref 94) kc_90_9 rfl rfl rfl A29 rfl ?_
            refine xcps4 (xk_arr K26.1 xD_94) (fun y33 A33 hy33 ry33 => ?_)
            refine xi_arraylength (pc' := 13) (n := 7) (v := 7) kc_90_12 rfl (xl_lenI (by decide) (by decide) A33 hy33) rfl ?_
            refine xi_cmf (pc' := 16) kc_90_13 rfl rfl ?_
            refine xi_aload_n (pc' := 17) (x := 0) kc_90_16 rfl rfl ?_
            refine xi_getfield (pc' := 20) (v := .ref 94) kc_90_17 rfl rfl rfl A29 rfl ?_
            refine xi_iload_n (pc' := 21) (x := 4) kc_90_20 rfl rfl ?_
            refine xi_dup2 (pc' := 22) kc_90_21 rfl ⟨rfl, rfl⟩ ?_
            refine xcps4 (xj_get hy33 ry33 (i := 4) (by decide) (by decide)) (fun v34 ev34 bv34 dv34 => ?_)
            refine xi_iaload (pc' := 23) (v := v34) kc_90_22 rfl A33 (by decide) rfl (xi_in (by decide) (by rw [hy33]; decide)) ev34 ?_
            refine xi_iconst (pc' := 24) (v := 1) kc_90_23 rfl rfl ?_
            refine xcps2 (α := Int32) ((v34 : Int32) + 1) (fun v35 ev35 => ?_)
            have rv35 := xc_rng v35
            refine xi_iadd (pc' := 25) (v := v35) kc_90_24 rfl ev35 ?_
            refine xcps4 (xj_set (v := v35) hy33 ry33 4 (by first | omega | decide) (by first | omega | decide)) (fun y36 s36 hy36 ry36 => ?_)
            refine xi_iastore (pc' := 26) (x' := y36) kc_90_25 rfl A33 rfl (xi_in (by decide) (by rw [hy33]; decide)) s36 (fun hh36 eh36 => ?_)
            have K37 := xk_pa K26 (xk_wa rfl) xD_94 hy36 ry36 eh36
            refine xi_iload_n (pc' := 27) (x := (-4)) kc_90_26 rfl rfl ?_
            refine xi_ireturn kc_90_27 mr_90 rfl ?_
            show xw J ov (d + 2) 163 (74, [(0, .ref 0), (1, .int x1), (2, .int x2), (3, .int x3), (4, .int x4), (5, .int x5)], [.int (-4)], hh36) _
            refine xi_ireturn kc_163_74 mr_163 rfl ?_
            have zcm4 : ((-4) : Int32).toInt = (-4) := by decide
            exact kk (-4) hh36 (by omega) K37
          · refine xi_iff (pc' := 52) kc_163_49 rfl (xc_lt_f (X := x3.toInt) (Y := 0) rfl (by decide) (by omega)) ?_
            refine xi_iload (pc' := 54) (x := x4) kc_163_52 rfl rfl ?_
            refine xi_aload_n (pc' := 55) (x := 0) kc_163_54 rfl rfl ?_
            refine xi_getfield (pc' := 58) (v := .int u21) kc_163_55 rfl rfl rfl A29 rfl ?_
            by_cases c38 : x4.toInt < u21.toInt
            · refine xi_cmt (pc' := 68) kc_163_58 rfl (xc_lt_t (X := x4.toInt) (Y := u21.toInt) rfl rfl (by omega)) ?_
              refine xi_aload_n (pc' := 69) (x := 0) kc_163_68 rfl rfl ?_
              refine xi_bipush (pc' := 71) (v := (-4)) kc_163_69 rfl rfl ?_
              refine xi_virtual (mj := 90) (as := [.int (-4)]) (st1 := []) (lv0 := [(0, .ref 0), (1, .int (-4))]) kc_163_71 rfl rfl rfl rfl rfl A29 (Nat.le_of_ble_eq_true rfl) (hJ _ _ _ _ (by decide)) (xm_le ml_90 rfl) rfl ?_
              refine xi_iload_n (pc' := 1) (x := (-4)) kc_90_0 rfl rfl ?_
              refine xi_ineg (pc' := 2) (v := 4) kc_90_1 rfl rfl ?_
              refine xi_istore_n (pc' := 3) (lv' := [(2, .int 4), (0, .ref 0), (1, .int (-4))]) kc_90_2 rfl rfl (xm_lt ml_90 rfl) ?_
              refine xi_iload_n (pc' := 4) (x := 4) kc_90_3 rfl rfl ?_
              refine xi_iff (pc' := 7) kc_90_4 rfl rfl ?_
              refine xi_iload_n (pc' := 8) (x := 4) kc_90_7 rfl rfl ?_
              refine xi_aload_n (pc' := 9) (x := 0) kc_90_8 rfl rfl ?_
              refine xi_getfield (pc' := 12) (v := .ref 94) kc_90_9 rfl rfl rfl A29 rfl ?_
              refine xcps4 (xk_arr K26.1 xD_94) (fun y39 A39 hy39 ry39 => ?_)
              refine xi_arraylength (pc' := 13) (n := 7) (v := 7) kc_90_12 rfl (xl_lenI (by decide) (by decide) A39 hy39) rfl ?_
              refine xi_cmf (pc' := 16) kc_90_13 rfl rfl ?_
              refine xi_aload_n (pc' := 17) (x := 0) kc_90_16 rfl rfl ?_
              refine xi_getfield (pc' := 20) (v := .ref 94) kc_90_17 rfl rfl rfl A29 rfl ?_
              refine xi_iload_n (pc' := 21) (x := 4) kc_90_20 rfl rfl ?_
              refine xi_dup2 (pc' := 22) kc_90_21 rfl ⟨rfl, rfl⟩ ?_
              refine xcps4 (xj_get hy39 ry39 (i := 4) (by decide) (by decide)) (fun v40 ev40 bv40 dv40 => ?_)
              refine xi_iaload (pc' := 23) (v := v40) kc_90_22 rfl A39 (by decide) rfl (xi_in (by decide) (by rw [hy39]; decide)) ev40 ?_
              refine xi_iconst (pc' := 24) (v := 1) kc_90_23 rfl rfl ?_
              refine xcps2 (α := Int32) ((v40 : Int32) + 1) (fun v41 ev41 => ?_)
              have rv41 := xc_rng v41
              refine xi_iadd (pc' := 25) (v := v41) kc_90_24 rfl ev41 ?_
              refine xcps4 (xj_set (v := v41) hy39 ry39 4 (by first | omega | decide) (by first | omega | decide)) (fun y42 s42 hy42 ry42 => ?_)
              refine xi_iastore (pc' := 26) (x' := y42) kc_90_25 rfl A39 rfl (xi_in (by decide) (by rw [hy39]; decide)) s42 (fun hh42 eh42 => ?_)
              have K43 := xk_pa K26 (xk_wa rfl) xD_94 hy42 ry42 eh42
              refine xi_iload_n (pc' := 27) (x := (-4)) kc_90_26 rfl rfl ?_
              refine xi_ireturn kc_90_27 mr_90 rfl ?_
              show xw J ov (d + 2) 163 (74, [(0, .ref 0), (1, .int x1), (2, .int x2), (3, .int x3), (4, .int x4), (5, .int x5)], [.int (-4)], hh42) _
              refine xi_ireturn kc_163_74 mr_163 rfl ?_
              have zcm4 : ((-4) : Int32).toInt = (-4) := by decide
              exact kk (-4) hh42 (by omega) K43
            · refine xi_cmf (pc' := 61) kc_163_58 rfl (xc_lt_f (X := x4.toInt) (Y := u21.toInt) rfl rfl (by omega)) ?_
              refine xi_iload (pc' := 63) (x := x5) kc_163_61 rfl rfl ?_
              refine xi_iload (pc' := 65) (x := x4) kc_163_63 rfl rfl ?_
              by_cases c44 : x4.toInt < x5.toInt
              · refine xi_cmt (pc' := 75) kc_163_65 rfl (xc_gt_t (X := x5.toInt) (Y := x4.toInt) rfl rfl (by omega)) ?_
                refine xi_iload_n (pc' := 76) (x := x3) kc_163_75 rfl rfl ?_
                refine xi_getstatic (pc' := 79) (j := 1000002) kc_163_76 rfl rfl ?_
                refine xi_iconst (pc' := 80) (v := 2) kc_163_79 rfl rfl ?_
                refine xi_ialoadO (pc' := 81) (v := 50) kc_163_80 rfl (by decide) hov2 (xi_in (n := 6) (by decide) (by decide)) rfl ?_
                by_cases c45 : 50 < x3.toInt
                · refine xi_cmt (pc' := 101) kc_163_81 rfl (xc_gt_t (X := x3.toInt) (Y := 50) rfl (by decide) (by omega)) ?_
                  refine xi_aload_n (pc' := 102) (x := 0) kc_163_101 rfl rfl ?_
                  refine xi_bipush (pc' := 104) (v := (-6)) kc_163_102 rfl rfl ?_
                  refine xi_virtual (mj := 90) (as := [.int (-6)]) (st1 := []) (lv0 := [(0, .ref 0), (1, .int (-6))]) kc_163_104 rfl rfl rfl rfl rfl A29 (Nat.le_of_ble_eq_true rfl) (hJ _ _ _ _ (by decide)) (xm_le ml_90 rfl) rfl ?_
                  refine xi_iload_n (pc' := 1) (x := (-6)) kc_90_0 rfl rfl ?_
                  refine xi_ineg (pc' := 2) (v := 6) kc_90_1 rfl rfl ?_
                  refine xi_istore_n (pc' := 3) (lv' := [(2, .int 6), (0, .ref 0), (1, .int (-6))]) kc_90_2 rfl rfl (xm_lt ml_90 rfl) ?_
                  refine xi_iload_n (pc' := 4) (x := 6) kc_90_3 rfl rfl ?_
                  refine xi_iff (pc' := 7) kc_90_4 rfl rfl ?_
                  refine xi_iload_n (pc' := 8) (x := 6) kc_90_7 rfl rfl ?_
                  refine xi_aload_n (pc' := 9) (x := 0) kc_90_8 rfl rfl ?_
                  refine xi_getfield (pc' := 12) (v := .ref 94) kc_90_9 rfl rfl rfl A29 rfl ?_
                  refine xcps4 (xk_arr K26.1 xD_94) (fun y46 A46 hy46 ry46 => ?_)
                  refine xi_arraylength (pc' := 13) (n := 7) (v := 7) kc_90_12 rfl (xl_lenI (by decide) (by decide) A46 hy46) rfl ?_
                  refine xi_cmf (pc' := 16) kc_90_13 rfl rfl ?_
                  refine xi_aload_n (pc' := 17) (x := 0) kc_90_16 rfl rfl ?_
                  refine xi_getfield (pc' := 20) (v := .ref 94) kc_90_17 rfl rfl rfl A29 rfl ?_
                  refine xi_iload_n (pc' := 21) (x := 6) kc_90_20 rfl rfl ?_
                  refine xi_dup2 (pc' := 22) kc_90_21 rfl ⟨rfl, rfl⟩ ?_
                  refine xcps4 (xj_get hy46 ry46 (i := 6) (by decide) (by decide)) (fun v47 ev47 bv47 dv47 => ?_)
                  refine xi_iaload (pc' := 23) (v := v47) kc_90_22 rfl A46 (by decide) rfl (xi_in (by decide) (by rw [hy46]; decide)) ev47 ?_
                  refine xi_iconst (pc' := 24) (v := 1) kc_90_23 rfl rfl ?_
                  refine xcps2 (α := Int32) ((v47 : Int32) + 1) (fun v48 ev48 => ?_)
                  have rv48 := xc_rng v48
                  refine xi_iadd (pc' := 25) (v := v48) kc_90_24 rfl ev48 ?_
                  refine xcps4 (xj_set (v := v48) hy46 ry46 6 (by first | omega | decide) (by first | omega | decide)) (fun y49 s49 hy49 ry49 => ?_)
                  refine xi_iastore (pc' := 26) (x' := y49) kc_90_25 rfl A46 rfl (xi_in (by decide) (by rw [hy46]; decide)) s49 (fun hh49 eh49 => ?_)
                  have K50 := xk_pa K26 (xk_wa rfl) xD_94 hy49 ry49 eh49
                  refine xi_iload_n (pc' := 27) (x := (-6)) kc_90_26 rfl rfl ?_
                  refine xi_ireturn kc_90_27 mr_90 rfl ?_
                  show xw J ov (d + 2) 163 (107, [(0, .ref 0), (1, .int x1), (2, .int x2), (3, .int x3), (4, .int x4), (5, .int x5)], [.int (-6)], hh49) _
                  refine xi_ireturn kc_163_107 mr_163 rfl ?_
                  have zcm6 : ((-6) : Int32).toInt = (-6) := by decide
                  exact kk (-6) hh49 (by omega) K50
                · refine xi_cmf (pc' := 84) kc_163_81 rfl (xc_gt_f (X := x3.toInt) (Y := 50) rfl (by decide) (by omega)) ?_
                  refine xi_iload (pc' := 86) (x := x5) kc_163_84 rfl rfl ?_
                  refine xi_sipush (pc' := 89) (v := 600) kc_163_86 rfl rfl ?_
                  by_cases c51 : 600 < x5.toInt
                  · refine xi_cmt (pc' := 101) kc_163_89 rfl (xc_gt_t (X := x5.toInt) (Y := 600) rfl (by decide) (by omega)) ?_
                    refine xi_aload_n (pc' := 102) (x := 0) kc_163_101 rfl rfl ?_
                    refine xi_bipush (pc' := 104) (v := (-6)) kc_163_102 rfl rfl ?_
                    refine xi_virtual (mj := 90) (as := [.int (-6)]) (st1 := []) (lv0 := [(0, .ref 0), (1, .int (-6))]) kc_163_104 rfl rfl rfl rfl rfl A29 (Nat.le_of_ble_eq_true rfl) (hJ _ _ _ _ (by decide)) (xm_le ml_90 rfl) rfl ?_
                    refine xi_iload_n (pc' := 1) (x := (-6)) kc_90_0 rfl rfl ?_
                    refine xi_ineg (pc' := 2) (v := 6) kc_90_1 rfl rfl ?_
                    refine xi_istore_n (pc' := 3) (lv' := [(2, .int 6), (0, .ref 0), (1, .int (-6))]) kc_90_2 rfl rfl (xm_lt ml_90 rfl) ?_
                    refine xi_iload_n (pc' := 4) (x := 6) kc_90_3 rfl rfl ?_
                    refine xi_iff (pc' := 7) kc_90_4 rfl rfl ?_
                    refine xi_iload_n (pc' := 8) (x := 6) kc_90_7 rfl rfl ?_
                    refine xi_aload_n (pc' := 9) (x := 0) kc_90_8 rfl rfl ?_
                    refine xi_getfield (pc' := 12) (v := .ref 94) kc_90_9 rfl rfl rfl A29 rfl ?_
                    refine xcps4 (xk_arr K26.1 xD_94) (fun y52 A52 hy52 ry52 => ?_)
                    refine xi_arraylength (pc' := 13) (n := 7) (v := 7) kc_90_12 rfl (xl_lenI (by decide) (by decide) A52 hy52) rfl ?_
                    refine xi_cmf (pc' := 16) kc_90_13 rfl rfl ?_
                    refine xi_aload_n (pc' := 17) (x := 0) kc_90_16 rfl rfl ?_
                    refine xi_getfield (pc' := 20) (v := .ref 94) kc_90_17 rfl rfl rfl A29 rfl ?_
                    refine xi_iload_n (pc' := 21) (x := 6) kc_90_20 rfl rfl ?_
                    refine xi_dup2 (pc' := 22) kc_90_21 rfl ⟨rfl, rfl⟩ ?_
                    refine xcps4 (xj_get hy52 ry52 (i := 6) (by decide) (by decide)) (fun v53 ev53 bv53 dv53 => ?_)
                    refine xi_iaload (pc' := 23) (v := v53) kc_90_22 rfl A52 (by decide) rfl (xi_in (by decide) (by rw [hy52]; decide)) ev53 ?_
                    refine xi_iconst (pc' := 24) (v := 1) kc_90_23 rfl rfl ?_
                    refine xcps2 (α := Int32) ((v53 : Int32) + 1) (fun v54 ev54 => ?_)
                    have rv54 := xc_rng v54
                    refine xi_iadd (pc' := 25) (v := v54) kc_90_24 rfl ev54 ?_
                    refine xcps4 (xj_set (v := v54) hy52 ry52 6 (by first | omega | decide) (by first | omega | decide)) (fun y55 s55 hy55 ry55 => ?_)
                    refine xi_iastore (pc' := 26) (x' := y55) kc_90_25 rfl A52 rfl (xi_in (by decide) (by rw [hy52]; decide)) s55 (fun hh55 eh55 => ?_)
                    have K56 := xk_pa K26 (xk_wa rfl) xD_94 hy55 ry55 eh55
                    refine xi_iload_n (pc' := 27) (x := (-6)) kc_90_26 rfl rfl ?_
                    refine xi_ireturn kc_90_27 mr_90 rfl ?_
                    show xw J ov (d + 2) 163 (107, [(0, .ref 0), (1, .int x1), (2, .int x2), (3, .int x3), (4, .int x4), (5, .int x5)], [.int (-6)], hh55) _
                    refine xi_ireturn kc_163_107 mr_163 rfl ?_
                    have zcm6 : ((-6) : Int32).toInt = (-6) := by decide
                    exact kk (-6) hh55 (by omega) K56
                  · refine xi_cmf (pc' := 92) kc_163_89 rfl (xc_gt_f (X := x5.toInt) (Y := 600) rfl (by decide) (by omega)) ?_
                    refine xi_aload_n (pc' := 93) (x := 0) kc_163_92 rfl rfl ?_
                    refine xi_getfield (pc' := 96) (v := .int u27) kc_163_93 rfl rfl rfl A29 rfl ?_
                    refine xi_bipush (pc' := 98) (v := 20) kc_163_96 rfl rfl ?_
                    by_cases c57 : u27.toInt < 20
                    · refine xi_cmt (pc' := 108) kc_163_98 rfl (xc_lt_t (X := u27.toInt) (Y := 20) rfl (by decide) (by omega)) ?_
                      refine xi_aload_n (pc' := 109) (x := 0) kc_163_108 rfl rfl ?_
                      refine xi_getfield (pc' := 112) (v := .ref 93) kc_163_109 rfl rfl rfl A29 rfl ?_
                      refine xi_aload_n (pc' := 113) (x := 0) kc_163_112 rfl rfl ?_
                      refine xi_getfield (pc' := 116) (v := .int u27) kc_163_113 rfl rfl rfl A29 rfl ?_
                      have A58 := xk_ex K26.1 xD_93
                      obtain ⟨pt59, ept59, mpt59⟩ := xR_93 (i := u27) (by omega) (by omega)
                      refine xj_aaload (pc' := 117) (b := pt59) kc_163_116 rfl A58 rfl (xi_in (n := 20) (by omega) (by omega)) ept59 ?_
                      refine xi_astore (pc' := 119) (lv' := [(6, .ref pt59), (0, .ref 0), (1, .int x1), (2, .int x2), (3, .int x3), (4, .int x4), (5, .int x5)]) kc_163_117 rfl rfl (xm_lt ml_163 rfl) ?_
                      refine xi_aload (pc' := 121) (x := pt59) kc_163_119 rfl rfl ?_
                      refine xi_iload_n (pc' := 122) (x := x1) kc_163_121 rfl rfl ?_
                      obtain ⟨u60, u61, u62, u63, u64, u65, bu60, bu61, bu62, bu63, bu64, bu65, A66⟩ := xg_trial K26.1 mpt59
                      refine xi_putfield (pc' := 125) (fs' := [.int x1, .int u61, .int u62, .int u63, .int u64, .int u65]) kc_163_122 rfl rfl rfl A66 rfl rfl rfl (Nat.le_of_ble_eq_true rfl) rfl (fun hh68 eh67 => ?_)
                      obtain ⟨ds69, Dds69, dds69_0, dds69_1, dds69_2, dds69_3, dds69_4, dds69_5⟩ := xGo_trial mpt59
                      have K70 := xk_pf (k := 0) (v := x1) K26 (xk_gf mpt59 rfl) Dds69 A66 dds69_0 (by first | omega | decide) (by first | omega | decide) eh67 rfl
                      refine xi_aload (pc' := 127) (x := pt59) kc_163_125 rfl rfl ?_
                      refine xi_iload_n (pc' := 128) (x := x2) kc_163_127 rfl rfl ?_
                      refine xi_iff (pc' := 131) kc_163_128 rfl (xc_ne_f (X := x2.toInt) (Y := 0) rfl (by decide) (by omega)) ?_
                      refine xi_iconst (pc' := 132) (v := 4) kc_163_131 rfl rfl ?_
                      refine xi_goto (pc' := 136) kc_163_132 rfl ?_
                      refine xi_putfield (pc' := 139) (fs' := [.int x1, .int 4, .int u62, .int u63, .int u64, .int u65]) kc_163_136 rfl rfl rfl eh67.1 rfl rfl rfl (Nat.le_of_ble_eq_true rfl) rfl (fun hh72 eh71 => ?_)
                      obtain ⟨ds73, Dds73, dds73_0, dds73_1, dds73_2, dds73_3, dds73_4, dds73_5⟩ := xGo_trial mpt59
                      have K74 := xk_pf (k := 1) (v := 4) K70 (xk_gf mpt59 rfl) Dds73 eh67.1 dds73_1 (by first | omega | decide) (by first | omega | decide) eh71 rfl
                      refine xi_aload (pc' := 141) (x := pt59) kc_163_139 rfl rfl ?_
                      refine xi_iload_n (pc' := 142) (x := x2) kc_163_141 rfl rfl ?_
                      refine xi_iff (pc' := 145) kc_163_142 rfl (xc_ne_f (X := x2.toInt) (Y := 0) rfl (by decide) (by omega)) ?_
                      refine xi_iconst (pc' := 146) (v := 1) kc_163_145 rfl rfl ?_
                      refine xi_goto (pc' := 150) kc_163_146 rfl ?_
                      refine xi_putfield (pc' := 153) (fs' := [.int x1, .int 4, .int 1, .int u63, .int u64, .int u65]) kc_163_150 rfl rfl rfl eh71.1 rfl rfl rfl (Nat.le_of_ble_eq_true rfl) rfl (fun hh76 eh75 => ?_)
                      obtain ⟨ds77, Dds77, dds77_0, dds77_1, dds77_2, dds77_3, dds77_4, dds77_5⟩ := xGo_trial mpt59
                      have K78 := xk_pf (k := 2) (v := 1) K74 (xk_gf mpt59 rfl) Dds77 eh71.1 dds77_2 (by first | omega | decide) (by first | omega | decide) eh75 rfl
                      refine xi_aload (pc' := 155) (x := pt59) kc_163_153 rfl rfl ?_
                      refine xi_iload (pc' := 157) (x := x4) kc_163_155 rfl rfl ?_
                      refine xi_putfield (pc' := 160) (fs' := [.int x1, .int 4, .int 1, .int x4, .int u64, .int u65]) kc_163_157 rfl rfl rfl eh75.1 rfl rfl rfl (Nat.le_of_ble_eq_true rfl) rfl (fun hh80 eh79 => ?_)
                      obtain ⟨ds81, Dds81, dds81_0, dds81_1, dds81_2, dds81_3, dds81_4, dds81_5⟩ := xGo_trial mpt59
                      have K82 := xk_pf (k := 3) (v := x4) K78 (xk_gf mpt59 rfl) Dds81 eh75.1 dds81_3 (by first | omega | decide) (by first | omega | decide) eh79 rfl
                      refine xi_aload (pc' := 162) (x := pt59) kc_163_160 rfl rfl ?_
                      refine xi_iload (pc' := 164) (x := x5) kc_163_162 rfl rfl ?_
                      refine xi_putfield (pc' := 167) (fs' := [.int x1, .int 4, .int 1, .int x4, .int x5, .int u65]) kc_163_164 rfl rfl rfl eh79.1 rfl rfl rfl (Nat.le_of_ble_eq_true rfl) rfl (fun hh84 eh83 => ?_)
                      obtain ⟨ds85, Dds85, dds85_0, dds85_1, dds85_2, dds85_3, dds85_4, dds85_5⟩ := xGo_trial mpt59
                      have K86 := xk_pf (k := 4) (v := x5) K82 (xk_gf mpt59 rfl) Dds85 eh79.1 dds85_4 (by first | omega | decide) (by first | omega | decide) eh83 rfl
                      refine xi_aload_n (pc' := 168) (x := 0) kc_163_167 rfl rfl ?_
                      refine xi_dup (pc' := 169) kc_163_168 rfl rfl ?_
                      have A87 := ((eh83.2.1 0 (xk_nc mpt59 rfl)).trans ((eh79.2.1 0 (xk_nc mpt59 rfl)).trans ((eh75.2.1 0 (xk_nc mpt59 rfl)).trans ((eh71.2.1 0 (xk_nc mpt59 rfl)).trans ((eh67.2.1 0 (xk_nc mpt59 rfl)).trans A29)))))
                      refine xi_getfield (pc' := 172) (v := .int u27) kc_163_169 rfl rfl rfl A87 rfl ?_
                      refine xi_iconst (pc' := 173) (v := 1) kc_163_172 rfl rfl ?_
                      refine xcps2 (α := Int32) (u27 + 1) (fun v88 ev88 => ?_)
                      have zv88 : v88.toInt = (u27.toInt + 1) := by rw [← ev88]; exact (xz_add (X := u27.toInt) (Y := 1) rfl (by decide) (by omega) (by omega)).trans (by omega)
                      refine xi_iadd (pc' := 174) (v := v88) kc_163_173 rfl ev88 ?_
                      refine xi_putfield (pc' := 177) (fs' := [.ref 1, .ref 63, .ref 66, .ref 75, .ref 80, .ref 85, .ref 93, .ref 94, .int v88, .int u21]) kc_163_174 rfl rfl rfl A87 rfl rfl rfl (Nat.le_of_ble_eq_true rfl) rfl (fun hh90 eh89 => ?_)
                      have K91 := xk_pf (k := 8) (v := v88) K86 (xk_wf rfl) xD_0 A87 rfl (by first | omega | decide) (by first | omega | decide) eh89 rfl
                      refine xi_aload_n (pc' := 178) (x := 0) kc_163_177 rfl rfl ?_
                      refine xi_getfield (pc' := 181) (v := .int v88) kc_163_178 rfl rfl rfl eh89.1 rfl ?_
                      refine xi_iconst (pc' := 182) (v := 1) kc_163_181 rfl rfl ?_
                      refine xcps2 (α := Int32) (v88 - 1) (fun v92 ev92 => ?_)
                      have zv92 : v92.toInt = u27.toInt := by rw [← ev92]; exact (xz_sub (X := (u27.toInt + 1)) (Y := 1) zv88 (by decide) (by omega) (by omega)).trans (by omega)
                      refine xi_isub (pc' := 183) (v := v92) kc_163_182 rfl ev92 ?_
                      refine xi_ireturn kc_163_183 mr_163 rfl ?_
                      exact kk v92 hh90 (by omega) K91
                    · refine xi_cmf (pc' := 101) kc_163_98 rfl (xc_lt_f (X := u27.toInt) (Y := 20) rfl (by decide) (by omega)) ?_
                      refine xi_aload_n (pc' := 102) (x := 0) kc_163_101 rfl rfl ?_
                      refine xi_bipush (pc' := 104) (v := (-6)) kc_163_102 rfl rfl ?_
                      refine xi_virtual (mj := 90) (as := [.int (-6)]) (st1 := []) (lv0 := [(0, .ref 0), (1, .int (-6))]) kc_163_104 rfl rfl rfl rfl rfl A29 (Nat.le_of_ble_eq_true rfl) (hJ _ _ _ _ (by decide)) (xm_le ml_90 rfl) rfl ?_
                      refine xi_iload_n (pc' := 1) (x := (-6)) kc_90_0 rfl rfl ?_
                      refine xi_ineg (pc' := 2) (v := 6) kc_90_1 rfl rfl ?_
                      refine xi_istore_n (pc' := 3) (lv' := [(2, .int 6), (0, .ref 0), (1, .int (-6))]) kc_90_2 rfl rfl (xm_lt ml_90 rfl) ?_
                      refine xi_iload_n (pc' := 4) (x := 6) kc_90_3 rfl rfl ?_
                      refine xi_iff (pc' := 7) kc_90_4 rfl rfl ?_
                      refine xi_iload_n (pc' := 8) (x := 6) kc_90_7 rfl rfl ?_
                      refine xi_aload_n (pc' := 9) (x := 0) kc_90_8 rfl rfl ?_
                      refine xi_getfield (pc' := 12) (v := .ref 94) kc_90_9 rfl rfl rfl A29 rfl ?_
                      refine xcps4 (xk_arr K26.1 xD_94) (fun y93 A93 hy93 ry93 => ?_)
                      refine xi_arraylength (pc' := 13) (n := 7) (v := 7) kc_90_12 rfl (xl_lenI (by decide) (by decide) A93 hy93) rfl ?_
                      refine xi_cmf (pc' := 16) kc_90_13 rfl rfl ?_
                      refine xi_aload_n (pc' := 17) (x := 0) kc_90_16 rfl rfl ?_
                      refine xi_getfield (pc' := 20) (v := .ref 94) kc_90_17 rfl rfl rfl A29 rfl ?_
                      refine xi_iload_n (pc' := 21) (x := 6) kc_90_20 rfl rfl ?_
                      refine xi_dup2 (pc' := 22) kc_90_21 rfl ⟨rfl, rfl⟩ ?_
                      refine xcps4 (xj_get hy93 ry93 (i := 6) (by decide) (by decide)) (fun v94 ev94 bv94 dv94 => ?_)
                      refine xi_iaload (pc' := 23) (v := v94) kc_90_22 rfl A93 (by decide) rfl (xi_in (by decide) (by rw [hy93]; decide)) ev94 ?_
                      refine xi_iconst (pc' := 24) (v := 1) kc_90_23 rfl rfl ?_
                      refine xcps2 (α := Int32) ((v94 : Int32) + 1) (fun v95 ev95 => ?_)
                      have rv95 := xc_rng v95
                      refine xi_iadd (pc' := 25) (v := v95) kc_90_24 rfl ev95 ?_
                      refine xcps4 (xj_set (v := v95) hy93 ry93 6 (by first | omega | decide) (by first | omega | decide)) (fun y96 s96 hy96 ry96 => ?_)
                      refine xi_iastore (pc' := 26) (x' := y96) kc_90_25 rfl A93 rfl (xi_in (by decide) (by rw [hy93]; decide)) s96 (fun hh96 eh96 => ?_)
                      have K97 := xk_pa K26 (xk_wa rfl) xD_94 hy96 ry96 eh96
                      refine xi_iload_n (pc' := 27) (x := (-6)) kc_90_26 rfl rfl ?_
                      refine xi_ireturn kc_90_27 mr_90 rfl ?_
                      show xw J ov (d + 2) 163 (107, [(0, .ref 0), (1, .int x1), (2, .int x2), (3, .int x3), (4, .int x4), (5, .int x5)], [.int (-6)], hh96) _
                      refine xi_ireturn kc_163_107 mr_163 rfl ?_
                      have zcm6 : ((-6) : Int32).toInt = (-6) := by decide
                      exact kk (-6) hh96 (by omega) K97
              · refine xi_cmf (pc' := 68) kc_163_65 rfl (xc_gt_f (X := x5.toInt) (Y := x4.toInt) rfl rfl (by omega)) ?_
                refine xi_aload_n (pc' := 69) (x := 0) kc_163_68 rfl rfl ?_
                refine xi_bipush (pc' := 71) (v := (-4)) kc_163_69 rfl rfl ?_
                refine xi_virtual (mj := 90) (as := [.int (-4)]) (st1 := []) (lv0 := [(0, .ref 0), (1, .int (-4))]) kc_163_71 rfl rfl rfl rfl rfl A29 (Nat.le_of_ble_eq_true rfl) (hJ _ _ _ _ (by decide)) (xm_le ml_90 rfl) rfl ?_
                refine xi_iload_n (pc' := 1) (x := (-4)) kc_90_0 rfl rfl ?_
                refine xi_ineg (pc' := 2) (v := 4) kc_90_1 rfl rfl ?_
                refine xi_istore_n (pc' := 3) (lv' := [(2, .int 4), (0, .ref 0), (1, .int (-4))]) kc_90_2 rfl rfl (xm_lt ml_90 rfl) ?_
                refine xi_iload_n (pc' := 4) (x := 4) kc_90_3 rfl rfl ?_
                refine xi_iff (pc' := 7) kc_90_4 rfl rfl ?_
                refine xi_iload_n (pc' := 8) (x := 4) kc_90_7 rfl rfl ?_
                refine xi_aload_n (pc' := 9) (x := 0) kc_90_8 rfl rfl ?_
                refine xi_getfield (pc' := 12) (v := .ref 94) kc_90_9 rfl rfl rfl A29 rfl ?_
                refine xcps4 (xk_arr K26.1 xD_94) (fun y98 A98 hy98 ry98 => ?_)
                refine xi_arraylength (pc' := 13) (n := 7) (v := 7) kc_90_12 rfl (xl_lenI (by decide) (by decide) A98 hy98) rfl ?_
                refine xi_cmf (pc' := 16) kc_90_13 rfl rfl ?_
                refine xi_aload_n (pc' := 17) (x := 0) kc_90_16 rfl rfl ?_
                refine xi_getfield (pc' := 20) (v := .ref 94) kc_90_17 rfl rfl rfl A29 rfl ?_
                refine xi_iload_n (pc' := 21) (x := 4) kc_90_20 rfl rfl ?_
                refine xi_dup2 (pc' := 22) kc_90_21 rfl ⟨rfl, rfl⟩ ?_
                refine xcps4 (xj_get hy98 ry98 (i := 4) (by decide) (by decide)) (fun v99 ev99 bv99 dv99 => ?_)
                refine xi_iaload (pc' := 23) (v := v99) kc_90_22 rfl A98 (by decide) rfl (xi_in (by decide) (by rw [hy98]; decide)) ev99 ?_
                refine xi_iconst (pc' := 24) (v := 1) kc_90_23 rfl rfl ?_
                refine xcps2 (α := Int32) ((v99 : Int32) + 1) (fun v100 ev100 => ?_)
                have rv100 := xc_rng v100
                refine xi_iadd (pc' := 25) (v := v100) kc_90_24 rfl ev100 ?_
                refine xcps4 (xj_set (v := v100) hy98 ry98 4 (by first | omega | decide) (by first | omega | decide)) (fun y101 s101 hy101 ry101 => ?_)
                refine xi_iastore (pc' := 26) (x' := y101) kc_90_25 rfl A98 rfl (xi_in (by decide) (by rw [hy98]; decide)) s101 (fun hh101 eh101 => ?_)
                have K102 := xk_pa K26 (xk_wa rfl) xD_94 hy101 ry101 eh101
                refine xi_iload_n (pc' := 27) (x := (-4)) kc_90_26 rfl rfl ?_
                refine xi_ireturn kc_90_27 mr_90 rfl ?_
                show xw J ov (d + 2) 163 (74, [(0, .ref 0), (1, .int x1), (2, .int x2), (3, .int x3), (4, .int x4), (5, .int x5)], [.int (-4)], hh101) _
                refine xi_ireturn kc_163_74 mr_163 rfl ?_
                have zcm4 : ((-4) : Int32).toInt = (-4) := by decide
                exact kk (-4) hh101 (by omega) K102
        · refine xi_iff (pc' := 41) kc_163_38 rfl (xc_eq_f (X := r23.toInt) (Y := 0) rfl (by decide) (by omega)) ?_
          refine xi_aload_n (pc' := 42) (x := 0) kc_163_41 rfl rfl ?_
          refine xi_bipush (pc' := 44) (v := (-3)) kc_163_42 rfl rfl ?_
          refine xi_virtual (mj := 90) (as := [.int (-3)]) (st1 := []) (lv0 := [(0, .ref 0), (1, .int (-3))]) kc_163_44 rfl rfl rfl rfl rfl A29 (Nat.le_of_ble_eq_true rfl) (hJ _ _ _ _ (by decide)) (xm_le ml_90 rfl) rfl ?_
          refine xi_iload_n (pc' := 1) (x := (-3)) kc_90_0 rfl rfl ?_
          refine xi_ineg (pc' := 2) (v := 3) kc_90_1 rfl rfl ?_
          refine xi_istore_n (pc' := 3) (lv' := [(2, .int 3), (0, .ref 0), (1, .int (-3))]) kc_90_2 rfl rfl (xm_lt ml_90 rfl) ?_
          refine xi_iload_n (pc' := 4) (x := 3) kc_90_3 rfl rfl ?_
          refine xi_iff (pc' := 7) kc_90_4 rfl rfl ?_
          refine xi_iload_n (pc' := 8) (x := 3) kc_90_7 rfl rfl ?_
          refine xi_aload_n (pc' := 9) (x := 0) kc_90_8 rfl rfl ?_
          refine xi_getfield (pc' := 12) (v := .ref 94) kc_90_9 rfl rfl rfl A29 rfl ?_
          refine xcps4 (xk_arr K26.1 xD_94) (fun y103 A103 hy103 ry103 => ?_)
          refine xi_arraylength (pc' := 13) (n := 7) (v := 7) kc_90_12 rfl (xl_lenI (by decide) (by decide) A103 hy103) rfl ?_
          refine xi_cmf (pc' := 16) kc_90_13 rfl rfl ?_
          refine xi_aload_n (pc' := 17) (x := 0) kc_90_16 rfl rfl ?_
          refine xi_getfield (pc' := 20) (v := .ref 94) kc_90_17 rfl rfl rfl A29 rfl ?_
          refine xi_iload_n (pc' := 21) (x := 3) kc_90_20 rfl rfl ?_
          refine xi_dup2 (pc' := 22) kc_90_21 rfl ⟨rfl, rfl⟩ ?_
          refine xcps4 (xj_get hy103 ry103 (i := 3) (by decide) (by decide)) (fun v104 ev104 bv104 dv104 => ?_)
          refine xi_iaload (pc' := 23) (v := v104) kc_90_22 rfl A103 (by decide) rfl (xi_in (by decide) (by rw [hy103]; decide)) ev104 ?_
          refine xi_iconst (pc' := 24) (v := 1) kc_90_23 rfl rfl ?_
          refine xcps2 (α := Int32) ((v104 : Int32) + 1) (fun v105 ev105 => ?_)
          have rv105 := xc_rng v105
          refine xi_iadd (pc' := 25) (v := v105) kc_90_24 rfl ev105 ?_
          refine xcps4 (xj_set (v := v105) hy103 ry103 3 (by first | omega | decide) (by first | omega | decide)) (fun y106 s106 hy106 ry106 => ?_)
          refine xi_iastore (pc' := 26) (x' := y106) kc_90_25 rfl A103 rfl (xi_in (by decide) (by rw [hy103]; decide)) s106 (fun hh106 eh106 => ?_)
          have K107 := xk_pa K26 (xk_wa rfl) xD_94 hy106 ry106 eh106
          refine xi_iload_n (pc' := 27) (x := (-3)) kc_90_26 rfl rfl ?_
          refine xi_ireturn kc_90_27 mr_90 rfl ?_
          show xw J ov (d + 2) 163 (47, [(0, .ref 0), (1, .int x1), (2, .int x2), (3, .int x3), (4, .int x4), (5, .int x5)], [.int (-3)], hh106) _
          refine xi_ireturn kc_163_47 mr_163 rfl ?_
          have zcm3 : ((-3) : Int32).toInt = (-3) := by decide
          exact kk (-3) hh106 (by omega) K107
      · refine xi_iff (pc' := 17) kc_163_14 rfl (xc_eq_f (X := x2.toInt) (Y := 0) rfl (by decide) (by omega)) ?_
        refine xi_iload_n (pc' := 18) (x := x2) kc_163_17 rfl rfl ?_
        refine xi_iconst (pc' := 19) (v := 1) kc_163_18 rfl rfl ?_
        by_cases c108 : x2.toInt = 1
        · refine xi_cmt (pc' := 29) kc_163_19 rfl (xc_eq_t (X := x2.toInt) (Y := 1) rfl (by decide) (by omega)) ?_
          refine xi_aload_n (pc' := 30) (x := 0) kc_163_29 rfl rfl ?_
          refine xi_iload_n (pc' := 31) (x := x1) kc_163_30 rfl rfl ?_
          refine xi_iload (pc' := 33) (x := x4) kc_163_31 rfl rfl ?_
          refine xi_iload (pc' := 35) (x := x5) kc_163_33 rfl rfl ?_
          refine xp_0 K.1 (fun u109 u110 bu109 bu110 A111 => ?_)
          refine xi_virtual (mj := 164) (as := [.int x1, .int x4, .int x5]) (st1 := []) (lv0 := [(0, .ref 0), (1, .int x1), (2, .int x4), (3, .int x5)]) kc_163_35 rfl rfl rfl rfl rfl A111 (Nat.le_of_ble_eq_true rfl) (hJ _ _ _ _ (by decide)) (xm_le ml_164 rfl) rfl ?_
          refine mt_164_0 hJ hov1 hov2 (d := d) (x1 := x1) (x2 := x4) (x3 := x5) K.1 (by first | omega | decide) (fun r112 hh113 br112 K114 => ?_)
          have K115 := xk_tr K K114 rfl
          refine xp_0 K115.1 (fun u116 u117 bu116 bu117 A118 => ?_)
          have e119 : u110 = u117 := xk_eqi (q := 9) K114 rfl A111 A118 rfl rfl
          subst e119
          show xw J ov (d + 2) 163 (38, [(0, .ref 0), (1, .int x1), (2, .int x2), (3, .int x3), (4, .int x4), (5, .int x5)], [.int r112], hh113) _
          by_cases c120 : r112.toInt = 0
          · refine xi_ift (pc' := 48) kc_163_38 rfl (xc_eq_t (X := r112.toInt) (Y := 0) rfl (by decide) (by omega)) ?_
            refine xi_iload_n (pc' := 49) (x := x3) kc_163_48 rfl rfl ?_
            by_cases c121 : x3.toInt < 0
            · refine xi_ift (pc' := 68) kc_163_49 rfl (xc_lt_t (X := x3.toInt) (Y := 0) rfl (by decide) (by omega)) ?_
              refine xi_aload_n (pc' := 69) (x := 0) kc_163_68 rfl rfl ?_
              refine xi_bipush (pc' := 71) (v := (-4)) kc_163_69 rfl rfl ?_
              refine xi_virtual (mj := 90) (as := [.int (-4)]) (st1 := []) (lv0 := [(0, .ref 0), (1, .int (-4))]) kc_163_71 rfl rfl rfl rfl rfl A118 (Nat.le_of_ble_eq_true rfl) (hJ _ _ _ _ (by decide)) (xm_le ml_90 rfl) rfl ?_
              refine xi_iload_n (pc' := 1) (x := (-4)) kc_90_0 rfl rfl ?_
              refine xi_ineg (pc' := 2) (v := 4) kc_90_1 rfl rfl ?_
              refine xi_istore_n (pc' := 3) (lv' := [(2, .int 4), (0, .ref 0), (1, .int (-4))]) kc_90_2 rfl rfl (xm_lt ml_90 rfl) ?_
              refine xi_iload_n (pc' := 4) (x := 4) kc_90_3 rfl rfl ?_
              refine xi_iff (pc' := 7) kc_90_4 rfl rfl ?_
              refine xi_iload_n (pc' := 8) (x := 4) kc_90_7 rfl rfl ?_
              refine xi_aload_n (pc' := 9) (x := 0) kc_90_8 rfl rfl ?_
              refine xi_getfield (pc' := 12) (v := .ref 94) kc_90_9 rfl rfl rfl A118 rfl ?_
              refine xcps4 (xk_arr K115.1 xD_94) (fun y122 A122 hy122 ry122 => ?_)
              refine xi_arraylength (pc' := 13) (n := 7) (v := 7) kc_90_12 rfl (xl_lenI (by decide) (by decide) A122 hy122) rfl ?_
              refine xi_cmf (pc' := 16) kc_90_13 rfl rfl ?_
              refine xi_aload_n (pc' := 17) (x := 0) kc_90_16 rfl rfl ?_
              refine xi_getfield (pc' := 20) (v := .ref 94) kc_90_17 rfl rfl rfl A118 rfl ?_
              refine xi_iload_n (pc' := 21) (x := 4) kc_90_20 rfl rfl ?_
              refine xi_dup2 (pc' := 22) kc_90_21 rfl ⟨rfl, rfl⟩ ?_
              refine xcps4 (xj_get hy122 ry122 (i := 4) (by decide) (by decide)) (fun v123 ev123 bv123 dv123 => ?_)
              refine xi_iaload (pc' := 23) (v := v123) kc_90_22 rfl A122 (by decide) rfl (xi_in (by decide) (by rw [hy122]; decide)) ev123 ?_
              refine xi_iconst (pc' := 24) (v := 1) kc_90_23 rfl rfl ?_
              refine xcps2 (α := Int32) ((v123 : Int32) + 1) (fun v124 ev124 => ?_)
              have rv124 := xc_rng v124
              refine xi_iadd (pc' := 25) (v := v124) kc_90_24 rfl ev124 ?_
              refine xcps4 (xj_set (v := v124) hy122 ry122 4 (by first | omega | decide) (by first | omega | decide)) (fun y125 s125 hy125 ry125 => ?_)
              refine xi_iastore (pc' := 26) (x' := y125) kc_90_25 rfl A122 rfl (xi_in (by decide) (by rw [hy122]; decide)) s125 (fun hh125 eh125 => ?_)
              have K126 := xk_pa K115 (xk_wa rfl) xD_94 hy125 ry125 eh125
              refine xi_iload_n (pc' := 27) (x := (-4)) kc_90_26 rfl rfl ?_
              refine xi_ireturn kc_90_27 mr_90 rfl ?_
              show xw J ov (d + 2) 163 (74, [(0, .ref 0), (1, .int x1), (2, .int x2), (3, .int x3), (4, .int x4), (5, .int x5)], [.int (-4)], hh125) _
              refine xi_ireturn kc_163_74 mr_163 rfl ?_
              have zcm4 : ((-4) : Int32).toInt = (-4) := by decide
              exact kk (-4) hh125 (by omega) K126
            · refine xi_iff (pc' := 52) kc_163_49 rfl (xc_lt_f (X := x3.toInt) (Y := 0) rfl (by decide) (by omega)) ?_
              refine xi_iload (pc' := 54) (x := x4) kc_163_52 rfl rfl ?_
              refine xi_aload_n (pc' := 55) (x := 0) kc_163_54 rfl rfl ?_
              refine xi_getfield (pc' := 58) (v := .int u110) kc_163_55 rfl rfl rfl A118 rfl ?_
              by_cases c127 : x4.toInt < u110.toInt
              · refine xi_cmt (pc' := 68) kc_163_58 rfl (xc_lt_t (X := x4.toInt) (Y := u110.toInt) rfl rfl (by omega)) ?_
                refine xi_aload_n (pc' := 69) (x := 0) kc_163_68 rfl rfl ?_
                refine xi_bipush (pc' := 71) (v := (-4)) kc_163_69 rfl rfl ?_
                refine xi_virtual (mj := 90) (as := [.int (-4)]) (st1 := []) (lv0 := [(0, .ref 0), (1, .int (-4))]) kc_163_71 rfl rfl rfl rfl rfl A118 (Nat.le_of_ble_eq_true rfl) (hJ _ _ _ _ (by decide)) (xm_le ml_90 rfl) rfl ?_
                refine xi_iload_n (pc' := 1) (x := (-4)) kc_90_0 rfl rfl ?_
                refine xi_ineg (pc' := 2) (v := 4) kc_90_1 rfl rfl ?_
                refine xi_istore_n (pc' := 3) (lv' := [(2, .int 4), (0, .ref 0), (1, .int (-4))]) kc_90_2 rfl rfl (xm_lt ml_90 rfl) ?_
                refine xi_iload_n (pc' := 4) (x := 4) kc_90_3 rfl rfl ?_
                refine xi_iff (pc' := 7) kc_90_4 rfl rfl ?_
                refine xi_iload_n (pc' := 8) (x := 4) kc_90_7 rfl rfl ?_
                refine xi_aload_n (pc' := 9) (x := 0) kc_90_8 rfl rfl ?_
                refine xi_getfield (pc' := 12) (v := .ref 94) kc_90_9 rfl rfl rfl A118 rfl ?_
                refine xcps4 (xk_arr K115.1 xD_94) (fun y128 A128 hy128 ry128 => ?_)
                refine xi_arraylength (pc' := 13) (n := 7) (v := 7) kc_90_12 rfl (xl_lenI (by decide) (by decide) A128 hy128) rfl ?_
                refine xi_cmf (pc' := 16) kc_90_13 rfl rfl ?_
                refine xi_aload_n (pc' := 17) (x := 0) kc_90_16 rfl rfl ?_
                refine xi_getfield (pc' := 20) (v := .ref 94) kc_90_17 rfl rfl rfl A118 rfl ?_
                refine xi_iload_n (pc' := 21) (x := 4) kc_90_20 rfl rfl ?_
                refine xi_dup2 (pc' := 22) kc_90_21 rfl ⟨rfl, rfl⟩ ?_
                refine xcps4 (xj_get hy128 ry128 (i := 4) (by decide) (by decide)) (fun v129 ev129 bv129 dv129 => ?_)
                refine xi_iaload (pc' := 23) (v := v129) kc_90_22 rfl A128 (by decide) rfl (xi_in (by decide) (by rw [hy128]; decide)) ev129 ?_
                refine xi_iconst (pc' := 24) (v := 1) kc_90_23 rfl rfl ?_
                refine xcps2 (α := Int32) ((v129 : Int32) + 1) (fun v130 ev130 => ?_)
                have rv130 := xc_rng v130
                refine xi_iadd (pc' := 25) (v := v130) kc_90_24 rfl ev130 ?_
                refine xcps4 (xj_set (v := v130) hy128 ry128 4 (by first | omega | decide) (by first | omega | decide)) (fun y131 s131 hy131 ry131 => ?_)
                refine xi_iastore (pc' := 26) (x' := y131) kc_90_25 rfl A128 rfl (xi_in (by decide) (by rw [hy128]; decide)) s131 (fun hh131 eh131 => ?_)
                have K132 := xk_pa K115 (xk_wa rfl) xD_94 hy131 ry131 eh131
                refine xi_iload_n (pc' := 27) (x := (-4)) kc_90_26 rfl rfl ?_
                refine xi_ireturn kc_90_27 mr_90 rfl ?_
                show xw J ov (d + 2) 163 (74, [(0, .ref 0), (1, .int x1), (2, .int x2), (3, .int x3), (4, .int x4), (5, .int x5)], [.int (-4)], hh131) _
                refine xi_ireturn kc_163_74 mr_163 rfl ?_
                have zcm4 : ((-4) : Int32).toInt = (-4) := by decide
                exact kk (-4) hh131 (by omega) K132
              · refine xi_cmf (pc' := 61) kc_163_58 rfl (xc_lt_f (X := x4.toInt) (Y := u110.toInt) rfl rfl (by omega)) ?_
                refine xi_iload (pc' := 63) (x := x5) kc_163_61 rfl rfl ?_
                refine xi_iload (pc' := 65) (x := x4) kc_163_63 rfl rfl ?_
                by_cases c133 : x4.toInt < x5.toInt
                · refine xi_cmt (pc' := 75) kc_163_65 rfl (xc_gt_t (X := x5.toInt) (Y := x4.toInt) rfl rfl (by omega)) ?_
                  refine xi_iload_n (pc' := 76) (x := x3) kc_163_75 rfl rfl ?_
                  refine xi_getstatic (pc' := 79) (j := 1000002) kc_163_76 rfl rfl ?_
                  refine xi_iconst (pc' := 80) (v := 2) kc_163_79 rfl rfl ?_
                  refine xi_ialoadO (pc' := 81) (v := 50) kc_163_80 rfl (by decide) hov2 (xi_in (n := 6) (by decide) (by decide)) rfl ?_
                  by_cases c134 : 50 < x3.toInt
                  · refine xi_cmt (pc' := 101) kc_163_81 rfl (xc_gt_t (X := x3.toInt) (Y := 50) rfl (by decide) (by omega)) ?_
                    refine xi_aload_n (pc' := 102) (x := 0) kc_163_101 rfl rfl ?_
                    refine xi_bipush (pc' := 104) (v := (-6)) kc_163_102 rfl rfl ?_
                    refine xi_virtual (mj := 90) (as := [.int (-6)]) (st1 := []) (lv0 := [(0, .ref 0), (1, .int (-6))]) kc_163_104 rfl rfl rfl rfl rfl A118 (Nat.le_of_ble_eq_true rfl) (hJ _ _ _ _ (by decide)) (xm_le ml_90 rfl) rfl ?_
                    refine xi_iload_n (pc' := 1) (x := (-6)) kc_90_0 rfl rfl ?_
                    refine xi_ineg (pc' := 2) (v := 6) kc_90_1 rfl rfl ?_
                    refine xi_istore_n (pc' := 3) (lv' := [(2, .int 6), (0, .ref 0), (1, .int (-6))]) kc_90_2 rfl rfl (xm_lt ml_90 rfl) ?_
                    refine xi_iload_n (pc' := 4) (x := 6) kc_90_3 rfl rfl ?_
                    refine xi_iff (pc' := 7) kc_90_4 rfl rfl ?_
                    refine xi_iload_n (pc' := 8) (x := 6) kc_90_7 rfl rfl ?_
                    refine xi_aload_n (pc' := 9) (x := 0) kc_90_8 rfl rfl ?_
                    refine xi_getfield (pc' := 12) (v := .ref 94) kc_90_9 rfl rfl rfl A118 rfl ?_
                    refine xcps4 (xk_arr K115.1 xD_94) (fun y135 A135 hy135 ry135 => ?_)
                    refine xi_arraylength (pc' := 13) (n := 7) (v := 7) kc_90_12 rfl (xl_lenI (by decide) (by decide) A135 hy135) rfl ?_
                    refine xi_cmf (pc' := 16) kc_90_13 rfl rfl ?_
                    refine xi_aload_n (pc' := 17) (x := 0) kc_90_16 rfl rfl ?_
                    refine xi_getfield (pc' := 20) (v := .ref 94) kc_90_17 rfl rfl rfl A118 rfl ?_
                    refine xi_iload_n (pc' := 21) (x := 6) kc_90_20 rfl rfl ?_
                    refine xi_dup2 (pc' := 22) kc_90_21 rfl ⟨rfl, rfl⟩ ?_
                    refine xcps4 (xj_get hy135 ry135 (i := 6) (by decide) (by decide)) (fun v136 ev136 bv136 dv136 => ?_)
                    refine xi_iaload (pc' := 23) (v := v136) kc_90_22 rfl A135 (by decide) rfl (xi_in (by decide) (by rw [hy135]; decide)) ev136 ?_
                    refine xi_iconst (pc' := 24) (v := 1) kc_90_23 rfl rfl ?_
                    refine xcps2 (α := Int32) ((v136 : Int32) + 1) (fun v137 ev137 => ?_)
                    have rv137 := xc_rng v137
                    refine xi_iadd (pc' := 25) (v := v137) kc_90_24 rfl ev137 ?_
                    refine xcps4 (xj_set (v := v137) hy135 ry135 6 (by first | omega | decide) (by first | omega | decide)) (fun y138 s138 hy138 ry138 => ?_)
                    refine xi_iastore (pc' := 26) (x' := y138) kc_90_25 rfl A135 rfl (xi_in (by decide) (by rw [hy135]; decide)) s138 (fun hh138 eh138 => ?_)
                    have K139 := xk_pa K115 (xk_wa rfl) xD_94 hy138 ry138 eh138
                    refine xi_iload_n (pc' := 27) (x := (-6)) kc_90_26 rfl rfl ?_
                    refine xi_ireturn kc_90_27 mr_90 rfl ?_
                    show xw J ov (d + 2) 163 (107, [(0, .ref 0), (1, .int x1), (2, .int x2), (3, .int x3), (4, .int x4), (5, .int x5)], [.int (-6)], hh138) _
                    refine xi_ireturn kc_163_107 mr_163 rfl ?_
                    have zcm6 : ((-6) : Int32).toInt = (-6) := by decide
                    exact kk (-6) hh138 (by omega) K139
                  · refine xi_cmf (pc' := 84) kc_163_81 rfl (xc_gt_f (X := x3.toInt) (Y := 50) rfl (by decide) (by omega)) ?_
                    refine xi_iload (pc' := 86) (x := x5) kc_163_84 rfl rfl ?_
                    refine xi_sipush (pc' := 89) (v := 600) kc_163_86 rfl rfl ?_
                    by_cases c140 : 600 < x5.toInt
                    · refine xi_cmt (pc' := 101) kc_163_89 rfl (xc_gt_t (X := x5.toInt) (Y := 600) rfl (by decide) (by omega)) ?_
                      refine xi_aload_n (pc' := 102) (x := 0) kc_163_101 rfl rfl ?_
                      refine xi_bipush (pc' := 104) (v := (-6)) kc_163_102 rfl rfl ?_
                      refine xi_virtual (mj := 90) (as := [.int (-6)]) (st1 := []) (lv0 := [(0, .ref 0), (1, .int (-6))]) kc_163_104 rfl rfl rfl rfl rfl A118 (Nat.le_of_ble_eq_true rfl) (hJ _ _ _ _ (by decide)) (xm_le ml_90 rfl) rfl ?_
                      refine xi_iload_n (pc' := 1) (x := (-6)) kc_90_0 rfl rfl ?_
                      refine xi_ineg (pc' := 2) (v := 6) kc_90_1 rfl rfl ?_
                      refine xi_istore_n (pc' := 3) (lv' := [(2, .int 6), (0, .ref 0), (1, .int (-6))]) kc_90_2 rfl rfl (xm_lt ml_90 rfl) ?_
                      refine xi_iload_n (pc' := 4) (x := 6) kc_90_3 rfl rfl ?_
                      refine xi_iff (pc' := 7) kc_90_4 rfl rfl ?_
                      refine xi_iload_n (pc' := 8) (x := 6) kc_90_7 rfl rfl ?_
                      refine xi_aload_n (pc' := 9) (x := 0) kc_90_8 rfl rfl ?_
                      refine xi_getfield (pc' := 12) (v := .ref 94) kc_90_9 rfl rfl rfl A118 rfl ?_
                      refine xcps4 (xk_arr K115.1 xD_94) (fun y141 A141 hy141 ry141 => ?_)
                      refine xi_arraylength (pc' := 13) (n := 7) (v := 7) kc_90_12 rfl (xl_lenI (by decide) (by decide) A141 hy141) rfl ?_
                      refine xi_cmf (pc' := 16) kc_90_13 rfl rfl ?_
                      refine xi_aload_n (pc' := 17) (x := 0) kc_90_16 rfl rfl ?_
                      refine xi_getfield (pc' := 20) (v := .ref 94) kc_90_17 rfl rfl rfl A118 rfl ?_
                      refine xi_iload_n (pc' := 21) (x := 6) kc_90_20 rfl rfl ?_
                      refine xi_dup2 (pc' := 22) kc_90_21 rfl ⟨rfl, rfl⟩ ?_
                      refine xcps4 (xj_get hy141 ry141 (i := 6) (by decide) (by decide)) (fun v142 ev142 bv142 dv142 => ?_)
                      refine xi_iaload (pc' := 23) (v := v142) kc_90_22 rfl A141 (by decide) rfl (xi_in (by decide) (by rw [hy141]; decide)) ev142 ?_
                      refine xi_iconst (pc' := 24) (v := 1) kc_90_23 rfl rfl ?_
                      refine xcps2 (α := Int32) ((v142 : Int32) + 1) (fun v143 ev143 => ?_)
                      have rv143 := xc_rng v143
                      refine xi_iadd (pc' := 25) (v := v143) kc_90_24 rfl ev143 ?_
                      refine xcps4 (xj_set (v := v143) hy141 ry141 6 (by first | omega | decide) (by first | omega | decide)) (fun y144 s144 hy144 ry144 => ?_)
                      refine xi_iastore (pc' := 26) (x' := y144) kc_90_25 rfl A141 rfl (xi_in (by decide) (by rw [hy141]; decide)) s144 (fun hh144 eh144 => ?_)
                      have K145 := xk_pa K115 (xk_wa rfl) xD_94 hy144 ry144 eh144
                      refine xi_iload_n (pc' := 27) (x := (-6)) kc_90_26 rfl rfl ?_
                      refine xi_ireturn kc_90_27 mr_90 rfl ?_
                      show xw J ov (d + 2) 163 (107, [(0, .ref 0), (1, .int x1), (2, .int x2), (3, .int x3), (4, .int x4), (5, .int x5)], [.int (-6)], hh144) _
                      refine xi_ireturn kc_163_107 mr_163 rfl ?_
                      have zcm6 : ((-6) : Int32).toInt = (-6) := by decide
                      exact kk (-6) hh144 (by omega) K145
                    · refine xi_cmf (pc' := 92) kc_163_89 rfl (xc_gt_f (X := x5.toInt) (Y := 600) rfl (by decide) (by omega)) ?_
                      refine xi_aload_n (pc' := 93) (x := 0) kc_163_92 rfl rfl ?_
                      refine xi_getfield (pc' := 96) (v := .int u116) kc_163_93 rfl rfl rfl A118 rfl ?_
                      refine xi_bipush (pc' := 98) (v := 20) kc_163_96 rfl rfl ?_
                      by_cases c146 : u116.toInt < 20
                      · refine xi_cmt (pc' := 108) kc_163_98 rfl (xc_lt_t (X := u116.toInt) (Y := 20) rfl (by decide) (by omega)) ?_
                        refine xi_aload_n (pc' := 109) (x := 0) kc_163_108 rfl rfl ?_
                        refine xi_getfield (pc' := 112) (v := .ref 93) kc_163_109 rfl rfl rfl A118 rfl ?_
                        refine xi_aload_n (pc' := 113) (x := 0) kc_163_112 rfl rfl ?_
                        refine xi_getfield (pc' := 116) (v := .int u116) kc_163_113 rfl rfl rfl A118 rfl ?_
                        have A147 := xk_ex K115.1 xD_93
                        obtain ⟨pt148, ept148, mpt148⟩ := xR_93 (i := u116) (by omega) (by omega)
                        refine xj_aaload (pc' := 117) (b := pt148) kc_163_116 rfl A147 rfl (xi_in (n := 20) (by omega) (by omega)) ept148 ?_
                        refine xi_astore (pc' := 119) (lv' := [(6, .ref pt148), (0, .ref 0), (1, .int x1), (2, .int x2), (3, .int x3), (4, .int x4), (5, .int x5)]) kc_163_117 rfl rfl (xm_lt ml_163 rfl) ?_
                        refine xi_aload (pc' := 121) (x := pt148) kc_163_119 rfl rfl ?_
                        refine xi_iload_n (pc' := 122) (x := x1) kc_163_121 rfl rfl ?_
                        obtain ⟨u149, u150, u151, u152, u153, u154, bu149, bu150, bu151, bu152, bu153, bu154, A155⟩ := xg_trial K115.1 mpt148
                        refine xi_putfield (pc' := 125) (fs' := [.int x1, .int u150, .int u151, .int u152, .int u153, .int u154]) kc_163_122 rfl rfl rfl A155 rfl rfl rfl (Nat.le_of_ble_eq_true rfl) rfl (fun hh157 eh156 => ?_)
                        obtain ⟨ds158, Dds158, dds158_0, dds158_1, dds158_2, dds158_3, dds158_4, dds158_5⟩ := xGo_trial mpt148
                        have K159 := xk_pf (k := 0) (v := x1) K115 (xk_gf mpt148 rfl) Dds158 A155 dds158_0 (by first | omega | decide) (by first | omega | decide) eh156 rfl
                        refine xi_aload (pc' := 127) (x := pt148) kc_163_125 rfl rfl ?_
                        refine xi_iload_n (pc' := 128) (x := x2) kc_163_127 rfl rfl ?_
                        refine xi_ift (pc' := 135) kc_163_128 rfl (xc_ne_t (X := x2.toInt) (Y := 0) rfl (by decide) (by omega)) ?_
                        refine xi_iconst (pc' := 136) (v := 2) kc_163_135 rfl rfl ?_
                        refine xi_putfield (pc' := 139) (fs' := [.int x1, .int 2, .int u151, .int u152, .int u153, .int u154]) kc_163_136 rfl rfl rfl eh156.1 rfl rfl rfl (Nat.le_of_ble_eq_true rfl) rfl (fun hh161 eh160 => ?_)
                        obtain ⟨ds162, Dds162, dds162_0, dds162_1, dds162_2, dds162_3, dds162_4, dds162_5⟩ := xGo_trial mpt148
                        have K163 := xk_pf (k := 1) (v := 2) K159 (xk_gf mpt148 rfl) Dds162 eh156.1 dds162_1 (by first | omega | decide) (by first | omega | decide) eh160 rfl
                        refine xi_aload (pc' := 141) (x := pt148) kc_163_139 rfl rfl ?_
                        refine xi_iload_n (pc' := 142) (x := x2) kc_163_141 rfl rfl ?_
                        refine xi_ift (pc' := 149) kc_163_142 rfl (xc_ne_t (X := x2.toInt) (Y := 0) rfl (by decide) (by omega)) ?_
                        refine xi_iload_n (pc' := 150) (x := x3) kc_163_149 rfl rfl ?_
                        refine xi_putfield (pc' := 153) (fs' := [.int x1, .int 2, .int x3, .int u152, .int u153, .int u154]) kc_163_150 rfl rfl rfl eh160.1 rfl rfl rfl (Nat.le_of_ble_eq_true rfl) rfl (fun hh165 eh164 => ?_)
                        obtain ⟨ds166, Dds166, dds166_0, dds166_1, dds166_2, dds166_3, dds166_4, dds166_5⟩ := xGo_trial mpt148
                        have K167 := xk_pf (k := 2) (v := x3) K163 (xk_gf mpt148 rfl) Dds166 eh160.1 dds166_2 (by first | omega | decide) (by first | omega | decide) eh164 rfl
                        refine xi_aload (pc' := 155) (x := pt148) kc_163_153 rfl rfl ?_
                        refine xi_iload (pc' := 157) (x := x4) kc_163_155 rfl rfl ?_
                        refine xi_putfield (pc' := 160) (fs' := [.int x1, .int 2, .int x3, .int x4, .int u153, .int u154]) kc_163_157 rfl rfl rfl eh164.1 rfl rfl rfl (Nat.le_of_ble_eq_true rfl) rfl (fun hh169 eh168 => ?_)
                        obtain ⟨ds170, Dds170, dds170_0, dds170_1, dds170_2, dds170_3, dds170_4, dds170_5⟩ := xGo_trial mpt148
                        have K171 := xk_pf (k := 3) (v := x4) K167 (xk_gf mpt148 rfl) Dds170 eh164.1 dds170_3 (by first | omega | decide) (by first | omega | decide) eh168 rfl
                        refine xi_aload (pc' := 162) (x := pt148) kc_163_160 rfl rfl ?_
                        refine xi_iload (pc' := 164) (x := x5) kc_163_162 rfl rfl ?_
                        refine xi_putfield (pc' := 167) (fs' := [.int x1, .int 2, .int x3, .int x4, .int x5, .int u154]) kc_163_164 rfl rfl rfl eh168.1 rfl rfl rfl (Nat.le_of_ble_eq_true rfl) rfl (fun hh173 eh172 => ?_)
                        obtain ⟨ds174, Dds174, dds174_0, dds174_1, dds174_2, dds174_3, dds174_4, dds174_5⟩ := xGo_trial mpt148
                        have K175 := xk_pf (k := 4) (v := x5) K171 (xk_gf mpt148 rfl) Dds174 eh168.1 dds174_4 (by first | omega | decide) (by first | omega | decide) eh172 rfl
                        refine xi_aload_n (pc' := 168) (x := 0) kc_163_167 rfl rfl ?_
                        refine xi_dup (pc' := 169) kc_163_168 rfl rfl ?_
                        have A176 := ((eh172.2.1 0 (xk_nc mpt148 rfl)).trans ((eh168.2.1 0 (xk_nc mpt148 rfl)).trans ((eh164.2.1 0 (xk_nc mpt148 rfl)).trans ((eh160.2.1 0 (xk_nc mpt148 rfl)).trans ((eh156.2.1 0 (xk_nc mpt148 rfl)).trans A118)))))
                        refine xi_getfield (pc' := 172) (v := .int u116) kc_163_169 rfl rfl rfl A176 rfl ?_
                        refine xi_iconst (pc' := 173) (v := 1) kc_163_172 rfl rfl ?_
                        refine xcps2 (α := Int32) (u116 + 1) (fun v177 ev177 => ?_)
                        have zv177 : v177.toInt = (u116.toInt + 1) := by rw [← ev177]; exact (xz_add (X := u116.toInt) (Y := 1) rfl (by decide) (by omega) (by omega)).trans (by omega)
                        refine xi_iadd (pc' := 174) (v := v177) kc_163_173 rfl ev177 ?_
                        refine xi_putfield (pc' := 177) (fs' := [.ref 1, .ref 63, .ref 66, .ref 75, .ref 80, .ref 85, .ref 93, .ref 94, .int v177, .int u110]) kc_163_174 rfl rfl rfl A176 rfl rfl rfl (Nat.le_of_ble_eq_true rfl) rfl (fun hh179 eh178 => ?_)
                        have K180 := xk_pf (k := 8) (v := v177) K175 (xk_wf rfl) xD_0 A176 rfl (by first | omega | decide) (by first | omega | decide) eh178 rfl
                        refine xi_aload_n (pc' := 178) (x := 0) kc_163_177 rfl rfl ?_
                        refine xi_getfield (pc' := 181) (v := .int v177) kc_163_178 rfl rfl rfl eh178.1 rfl ?_
                        refine xi_iconst (pc' := 182) (v := 1) kc_163_181 rfl rfl ?_
                        refine xcps2 (α := Int32) (v177 - 1) (fun v181 ev181 => ?_)
                        have zv181 : v181.toInt = u116.toInt := by rw [← ev181]; exact (xz_sub (X := (u116.toInt + 1)) (Y := 1) zv177 (by decide) (by omega) (by omega)).trans (by omega)
                        refine xi_isub (pc' := 183) (v := v181) kc_163_182 rfl ev181 ?_
                        refine xi_ireturn kc_163_183 mr_163 rfl ?_
                        exact kk v181 hh179 (by omega) K180
                      · refine xi_cmf (pc' := 101) kc_163_98 rfl (xc_lt_f (X := u116.toInt) (Y := 20) rfl (by decide) (by omega)) ?_
                        refine xi_aload_n (pc' := 102) (x := 0) kc_163_101 rfl rfl ?_
                        refine xi_bipush (pc' := 104) (v := (-6)) kc_163_102 rfl rfl ?_
                        refine xi_virtual (mj := 90) (as := [.int (-6)]) (st1 := []) (lv0 := [(0, .ref 0), (1, .int (-6))]) kc_163_104 rfl rfl rfl rfl rfl A118 (Nat.le_of_ble_eq_true rfl) (hJ _ _ _ _ (by decide)) (xm_le ml_90 rfl) rfl ?_
                        refine xi_iload_n (pc' := 1) (x := (-6)) kc_90_0 rfl rfl ?_
                        refine xi_ineg (pc' := 2) (v := 6) kc_90_1 rfl rfl ?_
                        refine xi_istore_n (pc' := 3) (lv' := [(2, .int 6), (0, .ref 0), (1, .int (-6))]) kc_90_2 rfl rfl (xm_lt ml_90 rfl) ?_
                        refine xi_iload_n (pc' := 4) (x := 6) kc_90_3 rfl rfl ?_
                        refine xi_iff (pc' := 7) kc_90_4 rfl rfl ?_
                        refine xi_iload_n (pc' := 8) (x := 6) kc_90_7 rfl rfl ?_
                        refine xi_aload_n (pc' := 9) (x := 0) kc_90_8 rfl rfl ?_
                        refine xi_getfield (pc' := 12) (v := .ref 94) kc_90_9 rfl rfl rfl A118 rfl ?_
                        refine xcps4 (xk_arr K115.1 xD_94) (fun y182 A182 hy182 ry182 => ?_)
                        refine xi_arraylength (pc' := 13) (n := 7) (v := 7) kc_90_12 rfl (xl_lenI (by decide) (by decide) A182 hy182) rfl ?_
                        refine xi_cmf (pc' := 16) kc_90_13 rfl rfl ?_
                        refine xi_aload_n (pc' := 17) (x := 0) kc_90_16 rfl rfl ?_
                        refine xi_getfield (pc' := 20) (v := .ref 94) kc_90_17 rfl rfl rfl A118 rfl ?_
                        refine xi_iload_n (pc' := 21) (x := 6) kc_90_20 rfl rfl ?_
                        refine xi_dup2 (pc' := 22) kc_90_21 rfl ⟨rfl, rfl⟩ ?_
                        refine xcps4 (xj_get hy182 ry182 (i := 6) (by decide) (by decide)) (fun v183 ev183 bv183 dv183 => ?_)
                        refine xi_iaload (pc' := 23) (v := v183) kc_90_22 rfl A182 (by decide) rfl (xi_in (by decide) (by rw [hy182]; decide)) ev183 ?_
                        refine xi_iconst (pc' := 24) (v := 1) kc_90_23 rfl rfl ?_
                        refine xcps2 (α := Int32) ((v183 : Int32) + 1) (fun v184 ev184 => ?_)
                        have rv184 := xc_rng v184
                        refine xi_iadd (pc' := 25) (v := v184) kc_90_24 rfl ev184 ?_
                        refine xcps4 (xj_set (v := v184) hy182 ry182 6 (by first | omega | decide) (by first | omega | decide)) (fun y185 s185 hy185 ry185 => ?_)
                        refine xi_iastore (pc' := 26) (x' := y185) kc_90_25 rfl A182 rfl (xi_in (by decide) (by rw [hy182]; decide)) s185 (fun hh185 eh185 => ?_)
                        have K186 := xk_pa K115 (xk_wa rfl) xD_94 hy185 ry185 eh185
                        refine xi_iload_n (pc' := 27) (x := (-6)) kc_90_26 rfl rfl ?_
                        refine xi_ireturn kc_90_27 mr_90 rfl ?_
                        show xw J ov (d + 2) 163 (107, [(0, .ref 0), (1, .int x1), (2, .int x2), (3, .int x3), (4, .int x4), (5, .int x5)], [.int (-6)], hh185) _
                        refine xi_ireturn kc_163_107 mr_163 rfl ?_
                        have zcm6 : ((-6) : Int32).toInt = (-6) := by decide
                        exact kk (-6) hh185 (by omega) K186
                · refine xi_cmf (pc' := 68) kc_163_65 rfl (xc_gt_f (X := x5.toInt) (Y := x4.toInt) rfl rfl (by omega)) ?_
                  refine xi_aload_n (pc' := 69) (x := 0) kc_163_68 rfl rfl ?_
                  refine xi_bipush (pc' := 71) (v := (-4)) kc_163_69 rfl rfl ?_
                  refine xi_virtual (mj := 90) (as := [.int (-4)]) (st1 := []) (lv0 := [(0, .ref 0), (1, .int (-4))]) kc_163_71 rfl rfl rfl rfl rfl A118 (Nat.le_of_ble_eq_true rfl) (hJ _ _ _ _ (by decide)) (xm_le ml_90 rfl) rfl ?_
                  refine xi_iload_n (pc' := 1) (x := (-4)) kc_90_0 rfl rfl ?_
                  refine xi_ineg (pc' := 2) (v := 4) kc_90_1 rfl rfl ?_
                  refine xi_istore_n (pc' := 3) (lv' := [(2, .int 4), (0, .ref 0), (1, .int (-4))]) kc_90_2 rfl rfl (xm_lt ml_90 rfl) ?_
                  refine xi_iload_n (pc' := 4) (x := 4) kc_90_3 rfl rfl ?_
                  refine xi_iff (pc' := 7) kc_90_4 rfl rfl ?_
                  refine xi_iload_n (pc' := 8) (x := 4) kc_90_7 rfl rfl ?_
                  refine xi_aload_n (pc' := 9) (x := 0) kc_90_8 rfl rfl ?_
                  refine xi_getfield (pc' := 12) (v := .ref 94) kc_90_9 rfl rfl rfl A118 rfl ?_
                  refine xcps4 (xk_arr K115.1 xD_94) (fun y187 A187 hy187 ry187 => ?_)
                  refine xi_arraylength (pc' := 13) (n := 7) (v := 7) kc_90_12 rfl (xl_lenI (by decide) (by decide) A187 hy187) rfl ?_
                  refine xi_cmf (pc' := 16) kc_90_13 rfl rfl ?_
                  refine xi_aload_n (pc' := 17) (x := 0) kc_90_16 rfl rfl ?_
                  refine xi_getfield (pc' := 20) (v := .ref 94) kc_90_17 rfl rfl rfl A118 rfl ?_
                  refine xi_iload_n (pc' := 21) (x := 4) kc_90_20 rfl rfl ?_
                  refine xi_dup2 (pc' := 22) kc_90_21 rfl ⟨rfl, rfl⟩ ?_
                  refine xcps4 (xj_get hy187 ry187 (i := 4) (by decide) (by decide)) (fun v188 ev188 bv188 dv188 => ?_)
                  refine xi_iaload (pc' := 23) (v := v188) kc_90_22 rfl A187 (by decide) rfl (xi_in (by decide) (by rw [hy187]; decide)) ev188 ?_
                  refine xi_iconst (pc' := 24) (v := 1) kc_90_23 rfl rfl ?_
                  refine xcps2 (α := Int32) ((v188 : Int32) + 1) (fun v189 ev189 => ?_)
                  have rv189 := xc_rng v189
                  refine xi_iadd (pc' := 25) (v := v189) kc_90_24 rfl ev189 ?_
                  refine xcps4 (xj_set (v := v189) hy187 ry187 4 (by first | omega | decide) (by first | omega | decide)) (fun y190 s190 hy190 ry190 => ?_)
                  refine xi_iastore (pc' := 26) (x' := y190) kc_90_25 rfl A187 rfl (xi_in (by decide) (by rw [hy187]; decide)) s190 (fun hh190 eh190 => ?_)
                  have K191 := xk_pa K115 (xk_wa rfl) xD_94 hy190 ry190 eh190
                  refine xi_iload_n (pc' := 27) (x := (-4)) kc_90_26 rfl rfl ?_
                  refine xi_ireturn kc_90_27 mr_90 rfl ?_
                  show xw J ov (d + 2) 163 (74, [(0, .ref 0), (1, .int x1), (2, .int x2), (3, .int x3), (4, .int x4), (5, .int x5)], [.int (-4)], hh190) _
                  refine xi_ireturn kc_163_74 mr_163 rfl ?_
                  have zcm4 : ((-4) : Int32).toInt = (-4) := by decide
                  exact kk (-4) hh190 (by omega) K191
          · refine xi_iff (pc' := 41) kc_163_38 rfl (xc_eq_f (X := r112.toInt) (Y := 0) rfl (by decide) (by omega)) ?_
            refine xi_aload_n (pc' := 42) (x := 0) kc_163_41 rfl rfl ?_
            refine xi_bipush (pc' := 44) (v := (-3)) kc_163_42 rfl rfl ?_
            refine xi_virtual (mj := 90) (as := [.int (-3)]) (st1 := []) (lv0 := [(0, .ref 0), (1, .int (-3))]) kc_163_44 rfl rfl rfl rfl rfl A118 (Nat.le_of_ble_eq_true rfl) (hJ _ _ _ _ (by decide)) (xm_le ml_90 rfl) rfl ?_
            refine xi_iload_n (pc' := 1) (x := (-3)) kc_90_0 rfl rfl ?_
            refine xi_ineg (pc' := 2) (v := 3) kc_90_1 rfl rfl ?_
            refine xi_istore_n (pc' := 3) (lv' := [(2, .int 3), (0, .ref 0), (1, .int (-3))]) kc_90_2 rfl rfl (xm_lt ml_90 rfl) ?_
            refine xi_iload_n (pc' := 4) (x := 3) kc_90_3 rfl rfl ?_
            refine xi_iff (pc' := 7) kc_90_4 rfl rfl ?_
            refine xi_iload_n (pc' := 8) (x := 3) kc_90_7 rfl rfl ?_
            refine xi_aload_n (pc' := 9) (x := 0) kc_90_8 rfl rfl ?_
            refine xi_getfield (pc' := 12) (v := .ref 94) kc_90_9 rfl rfl rfl A118 rfl ?_
            refine xcps4 (xk_arr K115.1 xD_94) (fun y192 A192 hy192 ry192 => ?_)
            refine xi_arraylength (pc' := 13) (n := 7) (v := 7) kc_90_12 rfl (xl_lenI (by decide) (by decide) A192 hy192) rfl ?_
            refine xi_cmf (pc' := 16) kc_90_13 rfl rfl ?_
            refine xi_aload_n (pc' := 17) (x := 0) kc_90_16 rfl rfl ?_
            refine xi_getfield (pc' := 20) (v := .ref 94) kc_90_17 rfl rfl rfl A118 rfl ?_
            refine xi_iload_n (pc' := 21) (x := 3) kc_90_20 rfl rfl ?_
            refine xi_dup2 (pc' := 22) kc_90_21 rfl ⟨rfl, rfl⟩ ?_
            refine xcps4 (xj_get hy192 ry192 (i := 3) (by decide) (by decide)) (fun v193 ev193 bv193 dv193 => ?_)
            refine xi_iaload (pc' := 23) (v := v193) kc_90_22 rfl A192 (by decide) rfl (xi_in (by decide) (by rw [hy192]; decide)) ev193 ?_
            refine xi_iconst (pc' := 24) (v := 1) kc_90_23 rfl rfl ?_
            refine xcps2 (α := Int32) ((v193 : Int32) + 1) (fun v194 ev194 => ?_)
            have rv194 := xc_rng v194
            refine xi_iadd (pc' := 25) (v := v194) kc_90_24 rfl ev194 ?_
            refine xcps4 (xj_set (v := v194) hy192 ry192 3 (by first | omega | decide) (by first | omega | decide)) (fun y195 s195 hy195 ry195 => ?_)
            refine xi_iastore (pc' := 26) (x' := y195) kc_90_25 rfl A192 rfl (xi_in (by decide) (by rw [hy192]; decide)) s195 (fun hh195 eh195 => ?_)
            have K196 := xk_pa K115 (xk_wa rfl) xD_94 hy195 ry195 eh195
            refine xi_iload_n (pc' := 27) (x := (-3)) kc_90_26 rfl rfl ?_
            refine xi_ireturn kc_90_27 mr_90 rfl ?_
            show xw J ov (d + 2) 163 (47, [(0, .ref 0), (1, .int x1), (2, .int x2), (3, .int x3), (4, .int x4), (5, .int x5)], [.int (-3)], hh195) _
            refine xi_ireturn kc_163_47 mr_163 rfl ?_
            have zcm3 : ((-3) : Int32).toInt = (-3) := by decide
            exact kk (-3) hh195 (by omega) K196
        · refine xi_cmf (pc' := 22) kc_163_19 rfl (xc_eq_f (X := x2.toInt) (Y := 1) rfl (by decide) (by omega)) ?_
          refine xi_aload_n (pc' := 23) (x := 0) kc_163_22 rfl rfl ?_
          refine xi_bipush (pc' := 25) (v := (-2)) kc_163_23 rfl rfl ?_
          refine xp_0 K.1 (fun u197 u198 bu197 bu198 A199 => ?_)
          refine xi_virtual (mj := 90) (as := [.int (-2)]) (st1 := []) (lv0 := [(0, .ref 0), (1, .int (-2))]) kc_163_25 rfl rfl rfl rfl rfl A199 (Nat.le_of_ble_eq_true rfl) (hJ _ _ _ _ (by decide)) (xm_le ml_90 rfl) rfl ?_
          refine xi_iload_n (pc' := 1) (x := (-2)) kc_90_0 rfl rfl ?_
          refine xi_ineg (pc' := 2) (v := 2) kc_90_1 rfl rfl ?_
          refine xi_istore_n (pc' := 3) (lv' := [(2, .int 2), (0, .ref 0), (1, .int (-2))]) kc_90_2 rfl rfl (xm_lt ml_90 rfl) ?_
          refine xi_iload_n (pc' := 4) (x := 2) kc_90_3 rfl rfl ?_
          refine xi_iff (pc' := 7) kc_90_4 rfl rfl ?_
          refine xi_iload_n (pc' := 8) (x := 2) kc_90_7 rfl rfl ?_
          refine xi_aload_n (pc' := 9) (x := 0) kc_90_8 rfl rfl ?_
          refine xi_getfield (pc' := 12) (v := .ref 94) kc_90_9 rfl rfl rfl A199 rfl ?_
          refine xcps4 (xk_arr K.1 xD_94) (fun y200 A200 hy200 ry200 => ?_)
          refine xi_arraylength (pc' := 13) (n := 7) (v := 7) kc_90_12 rfl (xl_lenI (by decide) (by decide) A200 hy200) rfl ?_
          refine xi_cmf (pc' := 16) kc_90_13 rfl rfl ?_
          refine xi_aload_n (pc' := 17) (x := 0) kc_90_16 rfl rfl ?_
          refine xi_getfield (pc' := 20) (v := .ref 94) kc_90_17 rfl rfl rfl A199 rfl ?_
          refine xi_iload_n (pc' := 21) (x := 2) kc_90_20 rfl rfl ?_
          refine xi_dup2 (pc' := 22) kc_90_21 rfl ⟨rfl, rfl⟩ ?_
          refine xcps4 (xj_get hy200 ry200 (i := 2) (by decide) (by decide)) (fun v201 ev201 bv201 dv201 => ?_)
          refine xi_iaload (pc' := 23) (v := v201) kc_90_22 rfl A200 (by decide) rfl (xi_in (by decide) (by rw [hy200]; decide)) ev201 ?_
          refine xi_iconst (pc' := 24) (v := 1) kc_90_23 rfl rfl ?_
          refine xcps2 (α := Int32) ((v201 : Int32) + 1) (fun v202 ev202 => ?_)
          have rv202 := xc_rng v202
          refine xi_iadd (pc' := 25) (v := v202) kc_90_24 rfl ev202 ?_
          refine xcps4 (xj_set (v := v202) hy200 ry200 2 (by first | omega | decide) (by first | omega | decide)) (fun y203 s203 hy203 ry203 => ?_)
          refine xi_iastore (pc' := 26) (x' := y203) kc_90_25 rfl A200 rfl (xi_in (by decide) (by rw [hy200]; decide)) s203 (fun hh203 eh203 => ?_)
          have K204 := xk_pa K (xk_wa rfl) xD_94 hy203 ry203 eh203
          refine xi_iload_n (pc' := 27) (x := (-2)) kc_90_26 rfl rfl ?_
          refine xi_ireturn kc_90_27 mr_90 rfl ?_
          show xw J ov (d + 2) 163 (28, [(0, .ref 0), (1, .int x1), (2, .int x2), (3, .int x3), (4, .int x4), (5, .int x5)], [.int (-2)], hh203) _
          refine xi_ireturn kc_163_28 mr_163 rfl ?_
          have zcm2 : ((-2) : Int32).toInt = (-2) := by decide
          exact kk (-2) hh203 (by omega) K204
set_option maxHeartbeats 4000000 in
theorem lp_166_0 {J : xe_J} {ov : List (List Int32)} (hJ : ∀ d mj as h, mj ≠ xe_loff → J d mj as h = none) (hov1 : ov[1]? = some [10, 0, 0, 0, 0, 0]) (hov2 : ov[2]? = some [99, 30, 50, 50, 1, 99999]) {d : Nat} {Q : Option Value → xe_H → Prop} {hb : xe_H} (kk : (∀ (r : Int32) (h' : xe_H), xk [(0, 9), (115, 1), (83, 0), (29, 0), (31, 0), (33, 0), (35, 0), (37, 0), (39, 0), (41, 0), (43, 0), (45, 0), (47, 0), (49, 0), (51, 0), (125, 0), (29, 2), (31, 2), (33, 2), (35, 2), (37, 2), (39, 2), (41, 2), (43, 2), (45, 2), (47, 2), (49, 2), (51, 2), (127, 0), (1, 5), (115, 23)] hb h' → Q (some (.int r)) h')) : ∀ m : Nat, (∀ (x1 : Int32) (x4 : Int32) (x5 : Int32) (w6 : Int64) (w8 : Int64) (x10 : Int32) (h : xe_H), (0 ≤ x4.toInt ∧ x4.toInt ≤ 2147483647) → ((-2147483648) ≤ x5.toInt ∧ x5.toInt ≤ 600) → (0 ≤ x10.toInt ∧ x10.toInt ≤ 12) → xk [(0, 9), (115, 1), (83, 0), (29, 0), (31, 0), (33, 0), (35, 0), (37, 0), (39, 0), (41, 0), (43, 0), (45, 0), (47, 0), (49, 0), (51, 0), (125, 0), (29, 2), (31, 2), (33, 2), (35, 2), (37, 2), (39, 2), (41, 2), (43, 2), (45, 2), (47, 2), (49, 2), (51, 2), (127, 0), (1, 5), (115, 23)] hb h → (-2147483649) * x10.toInt + 27917287436 < (m : Int) → xw J ov (d + 1) 166 (36, [(0, .ref 1), (1, .int x1), (4, .int x4), (5, .int x5), (6, .long w6), (8, .long w8), (10, .int x10)], [], h) Q) ∧ (∀ (x1 : Int32) (x4 : Int32) (x5 : Int32) (w6 : Int64) (w8 : Int64) (x10 : Int32) (x11 : Int32) (h : xe_H), (0 ≤ x4.toInt ∧ x4.toInt ≤ 2147483647) → ((-2147483648) ≤ x5.toInt ∧ x5.toInt ≤ 600) → (0 ≤ x10.toInt ∧ x10.toInt ≤ 11) → (0 ≤ x11.toInt ∧ x11.toInt ≤ 2147483647) → xk [(0, 9), (115, 1), (83, 0), (29, 0), (31, 0), (33, 0), (35, 0), (37, 0), (39, 0), (41, 0), (43, 0), (45, 0), (47, 0), (49, 0), (51, 0), (125, 0), (29, 2), (31, 2), (33, 2), (35, 2), (37, 2), (39, 2), (41, 2), (43, 2), (45, 2), (47, 2), (49, 2), (51, 2), (127, 0), (1, 5), (115, 23)] hb h → (-2147483649) * x10.toInt + (-1) * x11.toInt + 27917287435 < (m : Int) → xw J ov (d + 1) 166 (61, [(0, .ref 1), (1, .int x1), (4, .int x4), (5, .int x5), (6, .long w6), (8, .long w8), (10, .int x10), (11, .int x11)], [], h) Q) := by
  intro m
  induction m with
  | zero =>
    refine ⟨?_, ?_⟩
    · intro x1 x4 x5 w6 w8 x10 h b4 b5 b10 K hm; have rx1 := xc_rng x1; exfalso; omega
    · intro x1 x4 x5 w6 w8 x10 x11 h b4 b5 b10 b11 K hm; have rx1 := xc_rng x1; exfalso; omega
  | succ m ih =>
    obtain ⟨i0, i1⟩ := ih
    refine ⟨?_, ?_⟩
    · intro x1 x4 x5 w6 w8 x10 h b4 b5 b10 K hm
      have rx1 := xc_rng x1
      refine xi_iload (pc' := 38) (x := x10) kc_166_36 rfl rfl ?_
      refine xi_bipush (pc' := 40) (v := 12) kc_166_38 rfl rfl ?_
      by_cases c1 : 12 ≤ x10.toInt
      · refine xi_cmt (pc' := 105) kc_166_40 rfl (xc_ge_t (X := x10.toInt) (Y := 12) rfl (by decide) (by omega)) ?_
        refine xi_lload (pc' := 107) (x := w8) kc_166_105 rfl rfl ?_
        refine xi_lconst (pc' := 108) (v := 0) kc_166_107 rfl rfl ?_
        refine xcps2 (α := Int32) (lg_cmp w8 0) (fun v2 ev2 => ?_)
        have rv2 := xc_rng v2
        refine xi_lcmp (pc' := 109) (v := v2) kc_166_108 rfl ev2 ?_
        by_cases c3 : v2.toInt = 0
        · refine xi_iff (pc' := 112) kc_166_109 rfl (xc_ne_f (X := v2.toInt) (Y := 0) rfl (by decide) (by omega)) ?_
          refine xi_iconst (pc' := 113) (v := 0) kc_166_112 rfl rfl ?_
          refine xi_goto (pc' := 122) kc_166_113 rfl ?_
          refine xi_ireturn kc_166_122 mr_166 rfl ?_
          have zc0 : (0 : Int32).toInt = 0 := by decide
          exact kk 0 h K
        · have zw8c3 : w8 ≠ 0 := xj_lc ev2 (by omega)
          refine xi_ift (pc' := 116) kc_166_109 rfl (xc_ne_t (X := v2.toInt) (Y := 0) rfl (by decide) (by omega)) ?_
          refine xi_lload (pc' := 118) (x := w6) kc_166_116 rfl rfl ?_
          refine xi_lload (pc' := 120) (x := w8) kc_166_118 rfl rfl ?_
          refine xcps2 (α := Int64) ((w6 : Int64) / w8) (fun v4 ev4 => ?_)
          refine xi_ldiv (pc' := 121) (v := v4) kc_166_120 rfl ev4 zw8c3 ?_
          obtain ⟨v5, ev5⟩ : ∃ q, (v4 : Int64).toInt32 = q := ⟨_, rfl⟩
          have rv5 := xc_rng v5
          refine xi_l2i (pc' := 122) (v := v5) kc_166_121 rfl ev5 ?_
          refine xi_ireturn kc_166_122 mr_166 rfl ?_
          exact kk v5 h K
      · refine xi_cmf (pc' := 43) kc_166_40 rfl (xc_ge_f (X := x10.toInt) (Y := 12) rfl (by decide) (by omega)) ?_
        refine xi_aload_n (pc' := 44) (x := 1) kc_166_43 rfl rfl ?_
        refine xp_1 K.1 (fun u6 u7 bu6 bu7 A8 => ?_)
        refine xi_getfield (pc' := 47) (v := .ref 3) kc_166_44 rfl rfl rfl A8 rfl ?_
        refine xi_iload (pc' := 49) (x := x10) kc_166_47 rfl rfl ?_
        have A9 := xk_ex K.1 xD_3
        obtain ⟨pt10, ept10, mpt10⟩ := xR_3 (i := x10) (by omega) (by omega)
        refine xj_aaload (pc' := 50) (b := pt10) kc_166_49 rfl A9 rfl (xi_in (n := 12) (by omega) (by omega)) ept10 ?_
        obtain ⟨u11, u12, u13, u14, pt15, bu11, bu12, bu13, bu14, mpt15, A16⟩ := xg_wall K.1 mpt10
        refine xi_getfield (pc' := 53) (v := .int u11) kc_166_50 rfl rfl rfl A16 rfl ?_
        refine xi_iload_n (pc' := 54) (x := x1) kc_166_53 rfl rfl ?_
        by_cases c17 : u11.toInt = x1.toInt
        · refine xi_cmf (pc' := 57) kc_166_54 rfl (xc_ne_f (X := u11.toInt) (Y := x1.toInt) rfl rfl (by omega)) ?_
          refine xi_iload (pc' := 59) (x := x4) kc_166_57 rfl rfl ?_
          refine xi_istore (pc' := 61) (lv' := [(11, .int x4), (0, .ref 1), (1, .int x1), (4, .int x4), (5, .int x5), (6, .long w6), (8, .long w8), (10, .int x10)]) kc_166_59 rfl rfl (xm_lt ml_166 rfl) ?_
          refine xw_lv (b := [(0, .ref 1), (1, .int x1), (4, .int x4), (5, .int x5), (6, .long w6), (8, .long w8), (10, .int x10), (11, .int x4)]) (lvS_cons (lvS_cons (lvS_cons (lvS_cons (lvS_cons (lvS_cons (lvS_cons (lvS_cons (lvS_nil (show ([11, 0, 1, 4, 5, 6, 8, 10] : List Nat).Nodup by decide)) rfl) rfl) rfl) rfl) rfl) rfl) rfl) rfl) ?_
          exact i1 x1 x4 x5 w6 w8 x10 x4 h (by omega) (by omega) (by omega) (by omega) K (by omega)
        · refine xi_cmt (pc' := 99) kc_166_54 rfl (xc_ne_t (X := u11.toInt) (Y := x1.toInt) rfl rfl (by omega)) ?_
          refine xcps2 (α := Int32) (x10 + 1) (fun v18 ev18 => ?_)
          have zv18 : v18.toInt = (x10.toInt + 1) := by rw [← ev18]; exact (xz_add (X := x10.toInt) (Y := 1) rfl (by decide) (by omega) (by omega)).trans (by omega)
          refine xi_iinc (pc' := 102) (x := x10) (v := v18) (lv' := [(10, .int v18), (0, .ref 1), (1, .int x1), (4, .int x4), (5, .int x5), (6, .long w6), (8, .long w8)]) kc_166_99 rfl rfl ev18 rfl (xm_lt ml_166 rfl) ?_
          refine xi_goto (pc' := 36) kc_166_102 rfl ?_
          refine xw_lv (b := [(0, .ref 1), (1, .int x1), (4, .int x4), (5, .int x5), (6, .long w6), (8, .long w8), (10, .int v18)]) (lvS_cons (lvS_cons (lvS_cons (lvS_cons (lvS_cons (lvS_cons (lvS_cons (lvS_nil (show ([10, 0, 1, 4, 5, 6, 8] : List Nat).Nodup by decide)) rfl) rfl) rfl) rfl) rfl) rfl) rfl) ?_
          exact i0 x1 x4 x5 w6 w8 v18 h (by omega) (by omega) (by omega) K (by omega)
    · intro x1 x4 x5 w6 w8 x10 x11 h b4 b5 b10 b11 K hm
      have rx1 := xc_rng x1
      refine xi_iload (pc' := 63) (x := x11) kc_166_61 rfl rfl ?_
      refine xi_iload (pc' := 65) (x := x5) kc_166_63 rfl rfl ?_
      by_cases c1 : x5.toInt ≤ x11.toInt
      · refine xi_cmt (pc' := 99) kc_166_65 rfl (xc_ge_t (X := x11.toInt) (Y := x5.toInt) rfl rfl (by omega)) ?_
        refine xcps2 (α := Int32) (x10 + 1) (fun v2 ev2 => ?_)
        have zv2 : v2.toInt = (x10.toInt + 1) := by rw [← ev2]; exact (xz_add (X := x10.toInt) (Y := 1) rfl (by decide) (by omega) (by omega)).trans (by omega)
        refine xi_iinc (pc' := 102) (x := x10) (v := v2) (lv' := [(10, .int v2), (0, .ref 1), (1, .int x1), (4, .int x4), (5, .int x5), (6, .long w6), (8, .long w8), (11, .int x11)]) kc_166_99 rfl rfl ev2 rfl (xm_lt ml_166 rfl) ?_
        refine xi_goto (pc' := 36) kc_166_102 rfl ?_
        refine xw_lv (b := [(0, .ref 1), (1, .int x1), (4, .int x4), (5, .int x5), (6, .long w6), (8, .long w8), (10, .int v2)]) (lvS_cons (lvS_cons (lvS_cons (lvS_cons (lvS_cons (lvS_cons (lvS_cons (lvS_nil (show ([10, 0, 1, 4, 5, 6, 8, 11] : List Nat).Nodup by decide)) rfl) rfl) rfl) rfl) rfl) rfl) rfl) ?_
        exact i0 x1 x4 x5 w6 w8 v2 h (by omega) (by omega) (by omega) K (by omega)
      · refine xi_cmf (pc' := 68) kc_166_65 rfl (xc_ge_f (X := x11.toInt) (Y := x5.toInt) rfl rfl (by omega)) ?_
        refine xi_lload (pc' := 70) (x := w6) kc_166_68 rfl rfl ?_
        refine xi_aload_n (pc' := 71) (x := 1) kc_166_70 rfl rfl ?_
        refine xp_1 K.1 (fun u3 u4 bu3 bu4 A5 => ?_)
        refine xi_getfield (pc' := 74) (v := .ref 3) kc_166_71 rfl rfl rfl A5 rfl ?_
        refine xi_iload (pc' := 76) (x := x10) kc_166_74 rfl rfl ?_
        have A6 := xk_ex K.1 xD_3
        obtain ⟨pt7, ept7, mpt7⟩ := xR_3 (i := x10) (by omega) (by omega)
        refine xj_aaload (pc' := 77) (b := pt7) kc_166_76 rfl A6 rfl (xi_in (n := 12) (by omega) (by omega)) ept7 ?_
        obtain ⟨u8, u9, u10, u11, pt12, bu8, bu9, bu10, bu11, mpt12, A13⟩ := xg_wall K.1 mpt7
        refine xi_getfield (pc' := 80) (v := .ref pt12) kc_166_77 rfl rfl rfl A13 rfl ?_
        refine xi_iload (pc' := 82) (x := x11) kc_166_80 rfl rfl ?_
        refine xcps4 (xk_arr K.1 (xGD_wall4 mpt12)) (fun y14 A14 hy14 ry14 => ?_)
        refine xcps4 (xj_get hy14 ry14 (i := x11) (by omega) (by omega)) (fun v15 ev15 bv15 dv15 => ?_)
        refine xi_iaload (pc' := 83) (v := v15) kc_166_82 rfl A14 (xk_lo mpt12 rfl) rfl (xi_in (by omega) (by rw [hy14]; omega)) ev15 ?_
        obtain ⟨v16, ev16⟩ : ∃ q, (v15 : Int32).toInt64 = q := ⟨_, rfl⟩
        refine xi_i2l (pc' := 84) (v := v16) kc_166_83 rfl ev16 ?_
        refine xcps2 (α := Int64) ((w6 : Int64) + v16) (fun v17 ev17 => ?_)
        refine xi_ladd (pc' := 85) (v := v17) kc_166_84 rfl ev17 ?_
        refine xi_lstore (pc' := 87) (lv' := [(6, .long v17), (0, .ref 1), (1, .int x1), (4, .int x4), (5, .int x5), (8, .long w8), (10, .int x10), (11, .int x11)]) kc_166_85 rfl rfl (xm_lt ml_166 rfl) ?_
        refine xi_lload (pc' := 89) (x := w8) kc_166_87 rfl rfl ?_
        refine xi_lconst (pc' := 90) (v := 1) kc_166_89 rfl rfl ?_
        refine xcps2 (α := Int64) ((w8 : Int64) + 1) (fun v18 ev18 => ?_)
        refine xi_ladd (pc' := 91) (v := v18) kc_166_90 rfl ev18 ?_
        refine xi_lstore (pc' := 93) (lv' := [(8, .long v18), (6, .long v17), (0, .ref 1), (1, .int x1), (4, .int x4), (5, .int x5), (10, .int x10), (11, .int x11)]) kc_166_91 rfl rfl (xm_lt ml_166 rfl) ?_
        refine xcps2 (α := Int32) (x11 + 1) (fun v19 ev19 => ?_)
        have zv19 : v19.toInt = (x11.toInt + 1) := by rw [← ev19]; exact (xz_add (X := x11.toInt) (Y := 1) rfl (by decide) (by omega) (by omega)).trans (by omega)
        refine xi_iinc (pc' := 96) (x := x11) (v := v19) (lv' := [(11, .int v19), (8, .long v18), (6, .long v17), (0, .ref 1), (1, .int x1), (4, .int x4), (5, .int x5), (10, .int x10)]) kc_166_93 rfl rfl ev19 rfl (xm_lt ml_166 rfl) ?_
        refine xi_goto (pc' := 61) kc_166_96 rfl ?_
        refine xw_lv (b := [(0, .ref 1), (1, .int x1), (4, .int x4), (5, .int x5), (6, .long v17), (8, .long v18), (10, .int x10), (11, .int v19)]) (lvS_cons (lvS_cons (lvS_cons (lvS_cons (lvS_cons (lvS_cons (lvS_cons (lvS_cons (lvS_nil (show ([11, 8, 6, 0, 1, 4, 5, 10] : List Nat).Nodup by decide)) rfl) rfl) rfl) rfl) rfl) rfl) rfl) rfl) ?_
        exact i1 x1 x4 x5 v17 v18 x10 v19 h (by omega) (by omega) (by omega) (by omega) K (by omega)
set_option maxHeartbeats 4000000 in
theorem mt_166_0 {J : xe_J} {ov : List (List Int32)} (hJ : ∀ d mj as h, mj ≠ xe_loff → J d mj as h = none) (hov1 : ov[1]? = some [10, 0, 0, 0, 0, 0]) (hov2 : ov[2]? = some [99, 30, 50, 50, 1, 99999]) {d : Nat} {Q : Option Value → xe_H → Prop} {h : xe_H} {x1 : Int32} {x2 : Int32} {x3 : Int32} (T : xt h) (kk : (∀ (r : Int32) (h' : xe_H), xk [(0, 9), (115, 1), (83, 0), (29, 0), (31, 0), (33, 0), (35, 0), (37, 0), (39, 0), (41, 0), (43, 0), (45, 0), (47, 0), (49, 0), (51, 0), (125, 0), (29, 2), (31, 2), (33, 2), (35, 2), (37, 2), (39, 2), (41, 2), (43, 2), (45, 2), (47, 2), (49, 2), (51, 2), (127, 0), (1, 5), (115, 23)] h h' → Q (some (.int r)) h')) : xw J ov (d + 1) 166 (0, [(0, .ref 1), (1, .int x1), (2, .int x2), (3, .int x3)], [], h) Q := by
  have K : xk [(0, 9), (115, 1), (83, 0), (29, 0), (31, 0), (33, 0), (35, 0), (37, 0), (39, 0), (41, 0), (43, 0), (45, 0), (47, 0), (49, 0), (51, 0), (125, 0), (29, 2), (31, 2), (33, 2), (35, 2), (37, 2), (39, 2), (41, 2), (43, 2), (45, 2), (47, 2), (49, 2), (51, 2), (127, 0), (1, 5), (115, 23)] h h := xk_re T
  have rx1 := xc_rng x1
  have rx2 := xc_rng x2
  have rx3 := xc_rng x3
  refine xi_iload_n (pc' := 1) (x := x2) kc_166_0 rfl rfl ?_
  by_cases c1 : 0 ≤ x2.toInt
  · refine xi_ift (pc' := 8) kc_166_1 rfl (xc_ge_t (X := x2.toInt) (Y := 0) rfl (by decide) (by omega)) ?_
    refine xi_iload_n (pc' := 9) (x := x2) kc_166_8 rfl rfl ?_
    refine xi_istore (pc' := 11) (lv' := [(4, .int x2), (0, .ref 1), (1, .int x1), (2, .int x2), (3, .int x3)]) kc_166_9 rfl rfl (xm_lt ml_166 rfl) ?_
    refine xi_iload_n (pc' := 12) (x := x3) kc_166_11 rfl rfl ?_
    refine xi_sipush (pc' := 15) (v := 600) kc_166_12 rfl rfl ?_
    by_cases c2 : x3.toInt ≤ 600
    · refine xi_cmt (pc' := 24) kc_166_15 rfl (xc_le_t (X := x3.toInt) (Y := 600) rfl (by decide) (by omega)) ?_
      refine xi_iload_n (pc' := 25) (x := x3) kc_166_24 rfl rfl ?_
      refine xi_istore (pc' := 27) (lv' := [(5, .int x3), (4, .int x2), (0, .ref 1), (1, .int x1), (2, .int x2), (3, .int x3)]) kc_166_25 rfl rfl (xm_lt ml_166 rfl) ?_
      refine xi_lconst (pc' := 28) (v := 0) kc_166_27 rfl rfl ?_
      refine xi_lstore (pc' := 30) (lv' := [(6, .long 0), (5, .int x3), (4, .int x2), (0, .ref 1), (1, .int x1), (2, .int x2), (3, .int x3)]) kc_166_28 rfl rfl (xm_lt ml_166 rfl) ?_
      refine xi_lconst (pc' := 31) (v := 0) kc_166_30 rfl rfl ?_
      refine xi_lstore (pc' := 33) (lv' := [(8, .long 0), (6, .long 0), (5, .int x3), (4, .int x2), (0, .ref 1), (1, .int x1), (2, .int x2), (3, .int x3)]) kc_166_31 rfl rfl (xm_lt ml_166 rfl) ?_
      refine xi_iconst (pc' := 34) (v := 0) kc_166_33 rfl rfl ?_
      refine xi_istore (pc' := 36) (lv' := [(10, .int 0), (8, .long 0), (6, .long 0), (5, .int x3), (4, .int x2), (0, .ref 1), (1, .int x1), (2, .int x2), (3, .int x3)]) kc_166_34 rfl rfl (xm_lt ml_166 rfl) ?_
      have zc0 : (0 : Int32).toInt = 0 := by decide
      refine xw_lv (b := [(0, .ref 1), (1, .int x1), (4, .int x2), (5, .int x3), (6, .long 0), (8, .long 0), (10, .int 0)]) (lvS_cons (lvS_cons (lvS_cons (lvS_cons (lvS_cons (lvS_cons (lvS_cons (lvS_nil (show ([10, 8, 6, 5, 4, 0, 1, 2, 3] : List Nat).Nodup by decide)) rfl) rfl) rfl) rfl) rfl) rfl) rfl) ?_
      exact (lp_166_0 hJ hov1 hov2 (d := d) (hb := h) (fun r9 h9 K9 => kk r9 h9 (xk_tr K K9 rfl)) 27917287437).1 x1 x2 x3 0 0 0 h (by omega) (by omega) (by omega) (xk_re K.1) (by omega)
    · refine xi_cmf (pc' := 18) kc_166_15 rfl (xc_le_f (X := x3.toInt) (Y := 600) rfl (by decide) (by omega)) ?_
      refine xi_sipush (pc' := 21) (v := 600) kc_166_18 rfl rfl ?_
      refine xi_goto (pc' := 25) kc_166_21 rfl ?_
      refine xi_istore (pc' := 27) (lv' := [(5, .int 600), (4, .int x2), (0, .ref 1), (1, .int x1), (2, .int x2), (3, .int x3)]) kc_166_25 rfl rfl (xm_lt ml_166 rfl) ?_
      refine xi_lconst (pc' := 28) (v := 0) kc_166_27 rfl rfl ?_
      refine xi_lstore (pc' := 30) (lv' := [(6, .long 0), (5, .int 600), (4, .int x2), (0, .ref 1), (1, .int x1), (2, .int x2), (3, .int x3)]) kc_166_28 rfl rfl (xm_lt ml_166 rfl) ?_
      refine xi_lconst (pc' := 31) (v := 0) kc_166_30 rfl rfl ?_
      refine xi_lstore (pc' := 33) (lv' := [(8, .long 0), (6, .long 0), (5, .int 600), (4, .int x2), (0, .ref 1), (1, .int x1), (2, .int x2), (3, .int x3)]) kc_166_31 rfl rfl (xm_lt ml_166 rfl) ?_
      refine xi_iconst (pc' := 34) (v := 0) kc_166_33 rfl rfl ?_
      refine xi_istore (pc' := 36) (lv' := [(10, .int 0), (8, .long 0), (6, .long 0), (5, .int 600), (4, .int x2), (0, .ref 1), (1, .int x1), (2, .int x2), (3, .int x3)]) kc_166_34 rfl rfl (xm_lt ml_166 rfl) ?_
      have zc0 : (0 : Int32).toInt = 0 := by decide
      have zc600 : (600 : Int32).toInt = 600 := by decide
      refine xw_lv (b := [(0, .ref 1), (1, .int x1), (4, .int x2), (5, .int 600), (6, .long 0), (8, .long 0), (10, .int 0)]) (lvS_cons (lvS_cons (lvS_cons (lvS_cons (lvS_cons (lvS_cons (lvS_cons (lvS_nil (show ([10, 8, 6, 5, 4, 0, 1, 2, 3] : List Nat).Nodup by decide)) rfl) rfl) rfl) rfl) rfl) rfl) rfl) ?_
      exact (lp_166_0 hJ hov1 hov2 (d := d) (hb := h) (fun r9 h9 K9 => kk r9 h9 (xk_tr K K9 rfl)) 27917287437).1 x1 x2 600 0 0 0 h (by omega) (by omega) (by omega) (xk_re K.1) (by omega)
  · refine xi_iff (pc' := 4) kc_166_1 rfl (xc_ge_f (X := x2.toInt) (Y := 0) rfl (by decide) (by omega)) ?_
    refine xi_iconst (pc' := 5) (v := 0) kc_166_4 rfl rfl ?_
    refine xi_goto (pc' := 9) kc_166_5 rfl ?_
    refine xi_istore (pc' := 11) (lv' := [(4, .int 0), (0, .ref 1), (1, .int x1), (2, .int x2), (3, .int x3)]) kc_166_9 rfl rfl (xm_lt ml_166 rfl) ?_
    refine xi_iload_n (pc' := 12) (x := x3) kc_166_11 rfl rfl ?_
    refine xi_sipush (pc' := 15) (v := 600) kc_166_12 rfl rfl ?_
    by_cases c3 : x3.toInt ≤ 600
    · refine xi_cmt (pc' := 24) kc_166_15 rfl (xc_le_t (X := x3.toInt) (Y := 600) rfl (by decide) (by omega)) ?_
      refine xi_iload_n (pc' := 25) (x := x3) kc_166_24 rfl rfl ?_
      refine xi_istore (pc' := 27) (lv' := [(5, .int x3), (4, .int 0), (0, .ref 1), (1, .int x1), (2, .int x2), (3, .int x3)]) kc_166_25 rfl rfl (xm_lt ml_166 rfl) ?_
      refine xi_lconst (pc' := 28) (v := 0) kc_166_27 rfl rfl ?_
      refine xi_lstore (pc' := 30) (lv' := [(6, .long 0), (5, .int x3), (4, .int 0), (0, .ref 1), (1, .int x1), (2, .int x2), (3, .int x3)]) kc_166_28 rfl rfl (xm_lt ml_166 rfl) ?_
      refine xi_lconst (pc' := 31) (v := 0) kc_166_30 rfl rfl ?_
      refine xi_lstore (pc' := 33) (lv' := [(8, .long 0), (6, .long 0), (5, .int x3), (4, .int 0), (0, .ref 1), (1, .int x1), (2, .int x2), (3, .int x3)]) kc_166_31 rfl rfl (xm_lt ml_166 rfl) ?_
      refine xi_iconst (pc' := 34) (v := 0) kc_166_33 rfl rfl ?_
      refine xi_istore (pc' := 36) (lv' := [(10, .int 0), (8, .long 0), (6, .long 0), (5, .int x3), (4, .int 0), (0, .ref 1), (1, .int x1), (2, .int x2), (3, .int x3)]) kc_166_34 rfl rfl (xm_lt ml_166 rfl) ?_
      have zc0 : (0 : Int32).toInt = 0 := by decide
      refine xw_lv (b := [(0, .ref 1), (1, .int x1), (4, .int 0), (5, .int x3), (6, .long 0), (8, .long 0), (10, .int 0)]) (lvS_cons (lvS_cons (lvS_cons (lvS_cons (lvS_cons (lvS_cons (lvS_cons (lvS_nil (show ([10, 8, 6, 5, 4, 0, 1, 2, 3] : List Nat).Nodup by decide)) rfl) rfl) rfl) rfl) rfl) rfl) rfl) ?_
      exact (lp_166_0 hJ hov1 hov2 (d := d) (hb := h) (fun r9 h9 K9 => kk r9 h9 (xk_tr K K9 rfl)) 27917287437).1 x1 0 x3 0 0 0 h (by omega) (by omega) (by omega) (xk_re K.1) (by omega)
    · refine xi_cmf (pc' := 18) kc_166_15 rfl (xc_le_f (X := x3.toInt) (Y := 600) rfl (by decide) (by omega)) ?_
      refine xi_sipush (pc' := 21) (v := 600) kc_166_18 rfl rfl ?_
      refine xi_goto (pc' := 25) kc_166_21 rfl ?_
      refine xi_istore (pc' := 27) (lv' := [(5, .int 600), (4, .int 0), (0, .ref 1), (1, .int x1), (2, .int x2), (3, .int x3)]) kc_166_25 rfl rfl (xm_lt ml_166 rfl) ?_
      refine xi_lconst (pc' := 28) (v := 0) kc_166_27 rfl rfl ?_
      refine xi_lstore (pc' := 30) (lv' := [(6, .long 0), (5, .int 600), (4, .int 0), (0, .ref 1), (1, .int x1), (2, .int x2), (3, .int x3)]) kc_166_28 rfl rfl (xm_lt ml_166 rfl) ?_
      refine xi_lconst (pc' := 31) (v := 0) kc_166_30 rfl rfl ?_
      refine xi_lstore (pc' := 33) (lv' := [(8, .long 0), (6, .long 0), (5, .int 600), (4, .int 0), (0, .ref 1), (1, .int x1), (2, .int x2), (3, .int x3)]) kc_166_31 rfl rfl (xm_lt ml_166 rfl) ?_
      refine xi_iconst (pc' := 34) (v := 0) kc_166_33 rfl rfl ?_
      refine xi_istore (pc' := 36) (lv' := [(10, .int 0), (8, .long 0), (6, .long 0), (5, .int 600), (4, .int 0), (0, .ref 1), (1, .int x1), (2, .int x2), (3, .int x3)]) kc_166_34 rfl rfl (xm_lt ml_166 rfl) ?_
      have zc0 : (0 : Int32).toInt = 0 := by decide
      have zc600 : (600 : Int32).toInt = 600 := by decide
      refine xw_lv (b := [(0, .ref 1), (1, .int x1), (4, .int 0), (5, .int 600), (6, .long 0), (8, .long 0), (10, .int 0)]) (lvS_cons (lvS_cons (lvS_cons (lvS_cons (lvS_cons (lvS_cons (lvS_cons (lvS_nil (show ([10, 8, 6, 5, 4, 0, 1, 2, 3] : List Nat).Nodup by decide)) rfl) rfl) rfl) rfl) rfl) rfl) rfl) ?_
      exact (lp_166_0 hJ hov1 hov2 (d := d) (hb := h) (fun r9 h9 K9 => kk r9 h9 (xk_tr K K9 rfl)) 27917287437).1 x1 0 600 0 0 0 h (by omega) (by omega) (by omega) (xk_re K.1) (by omega)
set_option maxHeartbeats 4000000 in
theorem mt_165_0 {J : xe_J} {ov : List (List Int32)} (hJ : ∀ d mj as h, mj ≠ xe_loff → J d mj as h = none) (hov1 : ov[1]? = some [10, 0, 0, 0, 0, 0]) (hov2 : ov[2]? = some [99, 30, 50, 50, 1, 99999]) {d : Nat} {Q : Option Value → xe_H → Prop} {h : xe_H} {x1 : Int32} {x2 : Int32} (T : xt h) (kk : (∀ (r : Int32) (h' : xe_H), xk [(0, 9), (115, 1), (83, 0), (29, 0), (31, 0), (33, 0), (35, 0), (37, 0), (39, 0), (41, 0), (43, 0), (45, 0), (47, 0), (49, 0), (51, 0), (125, 0), (29, 2), (31, 2), (33, 2), (35, 2), (37, 2), (39, 2), (41, 2), (43, 2), (45, 2), (47, 2), (49, 2), (51, 2), (127, 0), (1, 5), (115, 23)] h h' → Q (some (.int r)) h')) : xw J ov (d + 2) 165 (0, [(0, .ref 0), (1, .int x1), (2, .int x2)], [], h) Q := by
  have K : xk [(0, 9), (115, 1), (83, 0), (29, 0), (31, 0), (33, 0), (35, 0), (37, 0), (39, 0), (41, 0), (43, 0), (45, 0), (47, 0), (49, 0), (51, 0), (125, 0), (29, 2), (31, 2), (33, 2), (35, 2), (37, 2), (39, 2), (41, 2), (43, 2), (45, 2), (47, 2), (49, 2), (51, 2), (127, 0), (1, 5), (115, 23)] h h := xk_re T
  have rx1 := xc_rng x1
  have rx2 := xc_rng x2
  refine xi_iload_n (pc' := 1) (x := x1) kc_165_0 rfl rfl ?_
  by_cases c1 : x1.toInt < 0
  · refine xi_ift (pc' := 18) kc_165_1 rfl (xc_lt_t (X := x1.toInt) (Y := 0) rfl (by decide) (by omega)) ?_
    refine xi_aload_n (pc' := 19) (x := 0) kc_165_18 rfl rfl ?_
    refine xi_iconst (pc' := 20) (v := (-1)) kc_165_19 rfl rfl ?_
    refine xp_0 K.1 (fun u2 u3 bu2 bu3 A4 => ?_)
    refine xi_virtual (mj := 90) (as := [.int (-1)]) (st1 := []) (lv0 := [(0, .ref 0), (1, .int (-1))]) kc_165_20 rfl rfl rfl rfl rfl A4 (Nat.le_of_ble_eq_true rfl) (hJ _ _ _ _ (by decide)) (xm_le ml_90 rfl) rfl ?_
    refine xi_iload_n (pc' := 1) (x := (-1)) kc_90_0 rfl rfl ?_
    refine xi_ineg (pc' := 2) (v := 1) kc_90_1 rfl rfl ?_
    refine xi_istore_n (pc' := 3) (lv' := [(2, .int 1), (0, .ref 0), (1, .int (-1))]) kc_90_2 rfl rfl (xm_lt ml_90 rfl) ?_
    refine xi_iload_n (pc' := 4) (x := 1) kc_90_3 rfl rfl ?_
    refine xi_iff (pc' := 7) kc_90_4 rfl rfl ?_
    refine xi_iload_n (pc' := 8) (x := 1) kc_90_7 rfl rfl ?_
    refine xi_aload_n (pc' := 9) (x := 0) kc_90_8 rfl rfl ?_
    refine xi_getfield (pc' := 12) (v := .ref 94) kc_90_9 rfl rfl rfl A4 rfl ?_
    refine xcps4 (xk_arr K.1 xD_94) (fun y5 A5 hy5 ry5 => ?_)
    refine xi_arraylength (pc' := 13) (n := 7) (v := 7) kc_90_12 rfl (xl_lenI (by decide) (by decide) A5 hy5) rfl ?_
    refine xi_cmf (pc' := 16) kc_90_13 rfl rfl ?_
    refine xi_aload_n (pc' := 17) (x := 0) kc_90_16 rfl rfl ?_
    refine xi_getfield (pc' := 20) (v := .ref 94) kc_90_17 rfl rfl rfl A4 rfl ?_
    refine xi_iload_n (pc' := 21) (x := 1) kc_90_20 rfl rfl ?_
    refine xi_dup2 (pc' := 22) kc_90_21 rfl ⟨rfl, rfl⟩ ?_
    refine xcps4 (xj_get hy5 ry5 (i := 1) (by decide) (by decide)) (fun v6 ev6 bv6 dv6 => ?_)
    refine xi_iaload (pc' := 23) (v := v6) kc_90_22 rfl A5 (by decide) rfl (xi_in (by decide) (by rw [hy5]; decide)) ev6 ?_
    refine xi_iconst (pc' := 24) (v := 1) kc_90_23 rfl rfl ?_
    refine xcps2 (α := Int32) ((v6 : Int32) + 1) (fun v7 ev7 => ?_)
    have rv7 := xc_rng v7
    refine xi_iadd (pc' := 25) (v := v7) kc_90_24 rfl ev7 ?_
    refine xcps4 (xj_set (v := v7) hy5 ry5 1 (by first | omega | decide) (by first | omega | decide)) (fun y8 s8 hy8 ry8 => ?_)
    refine xi_iastore (pc' := 26) (x' := y8) kc_90_25 rfl A5 rfl (xi_in (by decide) (by rw [hy5]; decide)) s8 (fun hh8 eh8 => ?_)
    have K9 := xk_pa K (xk_wa rfl) xD_94 hy8 ry8 eh8
    refine xi_iload_n (pc' := 27) (x := (-1)) kc_90_26 rfl rfl ?_
    refine xi_ireturn kc_90_27 mr_90 rfl ?_
    show xw J ov (d + 2) 165 (23, [(0, .ref 0), (1, .int x1), (2, .int x2)], [.int (-1)], hh8) _
    refine xi_ireturn kc_165_23 mr_165 rfl ?_
    have zcm1 : ((-1) : Int32).toInt = (-1) := by decide
    exact kk (-1) hh8 K9
  · refine xi_iff (pc' := 4) kc_165_1 rfl (xc_lt_f (X := x1.toInt) (Y := 0) rfl (by decide) (by omega)) ?_
    refine xi_iload_n (pc' := 5) (x := x1) kc_165_4 rfl rfl ?_
    refine xi_aload_n (pc' := 6) (x := 0) kc_165_5 rfl rfl ?_
    refine xp_0 K.1 (fun u10 u11 bu10 bu11 A12 => ?_)
    refine xi_getfield (pc' := 9) (v := .int u10) kc_165_6 rfl rfl rfl A12 rfl ?_
    by_cases c13 : u10.toInt ≤ x1.toInt
    · refine xi_cmt (pc' := 18) kc_165_9 rfl (xc_ge_t (X := x1.toInt) (Y := u10.toInt) rfl rfl (by omega)) ?_
      refine xi_aload_n (pc' := 19) (x := 0) kc_165_18 rfl rfl ?_
      refine xi_iconst (pc' := 20) (v := (-1)) kc_165_19 rfl rfl ?_
      refine xi_virtual (mj := 90) (as := [.int (-1)]) (st1 := []) (lv0 := [(0, .ref 0), (1, .int (-1))]) kc_165_20 rfl rfl rfl rfl rfl A12 (Nat.le_of_ble_eq_true rfl) (hJ _ _ _ _ (by decide)) (xm_le ml_90 rfl) rfl ?_
      refine xi_iload_n (pc' := 1) (x := (-1)) kc_90_0 rfl rfl ?_
      refine xi_ineg (pc' := 2) (v := 1) kc_90_1 rfl rfl ?_
      refine xi_istore_n (pc' := 3) (lv' := [(2, .int 1), (0, .ref 0), (1, .int (-1))]) kc_90_2 rfl rfl (xm_lt ml_90 rfl) ?_
      refine xi_iload_n (pc' := 4) (x := 1) kc_90_3 rfl rfl ?_
      refine xi_iff (pc' := 7) kc_90_4 rfl rfl ?_
      refine xi_iload_n (pc' := 8) (x := 1) kc_90_7 rfl rfl ?_
      refine xi_aload_n (pc' := 9) (x := 0) kc_90_8 rfl rfl ?_
      refine xi_getfield (pc' := 12) (v := .ref 94) kc_90_9 rfl rfl rfl A12 rfl ?_
      refine xcps4 (xk_arr K.1 xD_94) (fun y14 A14 hy14 ry14 => ?_)
      refine xi_arraylength (pc' := 13) (n := 7) (v := 7) kc_90_12 rfl (xl_lenI (by decide) (by decide) A14 hy14) rfl ?_
      refine xi_cmf (pc' := 16) kc_90_13 rfl rfl ?_
      refine xi_aload_n (pc' := 17) (x := 0) kc_90_16 rfl rfl ?_
      refine xi_getfield (pc' := 20) (v := .ref 94) kc_90_17 rfl rfl rfl A12 rfl ?_
      refine xi_iload_n (pc' := 21) (x := 1) kc_90_20 rfl rfl ?_
      refine xi_dup2 (pc' := 22) kc_90_21 rfl ⟨rfl, rfl⟩ ?_
      refine xcps4 (xj_get hy14 ry14 (i := 1) (by decide) (by decide)) (fun v15 ev15 bv15 dv15 => ?_)
      refine xi_iaload (pc' := 23) (v := v15) kc_90_22 rfl A14 (by decide) rfl (xi_in (by decide) (by rw [hy14]; decide)) ev15 ?_
      refine xi_iconst (pc' := 24) (v := 1) kc_90_23 rfl rfl ?_
      refine xcps2 (α := Int32) ((v15 : Int32) + 1) (fun v16 ev16 => ?_)
      have rv16 := xc_rng v16
      refine xi_iadd (pc' := 25) (v := v16) kc_90_24 rfl ev16 ?_
      refine xcps4 (xj_set (v := v16) hy14 ry14 1 (by first | omega | decide) (by first | omega | decide)) (fun y17 s17 hy17 ry17 => ?_)
      refine xi_iastore (pc' := 26) (x' := y17) kc_90_25 rfl A14 rfl (xi_in (by decide) (by rw [hy14]; decide)) s17 (fun hh17 eh17 => ?_)
      have K18 := xk_pa K (xk_wa rfl) xD_94 hy17 ry17 eh17
      refine xi_iload_n (pc' := 27) (x := (-1)) kc_90_26 rfl rfl ?_
      refine xi_ireturn kc_90_27 mr_90 rfl ?_
      show xw J ov (d + 2) 165 (23, [(0, .ref 0), (1, .int x1), (2, .int x2)], [.int (-1)], hh17) _
      refine xi_ireturn kc_165_23 mr_165 rfl ?_
      have zcm1 : ((-1) : Int32).toInt = (-1) := by decide
      exact kk (-1) hh17 K18
    · refine xi_cmf (pc' := 12) kc_165_9 rfl (xc_ge_f (X := x1.toInt) (Y := u10.toInt) rfl rfl (by omega)) ?_
      refine xi_iload_n (pc' := 13) (x := x1) kc_165_12 rfl rfl ?_
      refine xi_bipush (pc' := 15) (v := 20) kc_165_13 rfl rfl ?_
      refine xi_cmt (pc' := 24) kc_165_15 rfl (xc_lt_t (X := x1.toInt) (Y := 20) rfl (by decide) (by omega)) ?_
      refine xi_iload_n (pc' := 25) (x := x2) kc_165_24 rfl rfl ?_
      by_cases c19 : x2.toInt < 0
      · refine xi_ift (pc' := 33) kc_165_25 rfl (xc_lt_t (X := x2.toInt) (Y := 0) rfl (by decide) (by omega)) ?_
        refine xi_aload_n (pc' := 34) (x := 0) kc_165_33 rfl rfl ?_
        refine xi_bipush (pc' := 36) (v := (-2)) kc_165_34 rfl rfl ?_
        refine xi_virtual (mj := 90) (as := [.int (-2)]) (st1 := []) (lv0 := [(0, .ref 0), (1, .int (-2))]) kc_165_36 rfl rfl rfl rfl rfl A12 (Nat.le_of_ble_eq_true rfl) (hJ _ _ _ _ (by decide)) (xm_le ml_90 rfl) rfl ?_
        refine xi_iload_n (pc' := 1) (x := (-2)) kc_90_0 rfl rfl ?_
        refine xi_ineg (pc' := 2) (v := 2) kc_90_1 rfl rfl ?_
        refine xi_istore_n (pc' := 3) (lv' := [(2, .int 2), (0, .ref 0), (1, .int (-2))]) kc_90_2 rfl rfl (xm_lt ml_90 rfl) ?_
        refine xi_iload_n (pc' := 4) (x := 2) kc_90_3 rfl rfl ?_
        refine xi_iff (pc' := 7) kc_90_4 rfl rfl ?_
        refine xi_iload_n (pc' := 8) (x := 2) kc_90_7 rfl rfl ?_
        refine xi_aload_n (pc' := 9) (x := 0) kc_90_8 rfl rfl ?_
        refine xi_getfield (pc' := 12) (v := .ref 94) kc_90_9 rfl rfl rfl A12 rfl ?_
        refine xcps4 (xk_arr K.1 xD_94) (fun y20 A20 hy20 ry20 => ?_)
        refine xi_arraylength (pc' := 13) (n := 7) (v := 7) kc_90_12 rfl (xl_lenI (by decide) (by decide) A20 hy20) rfl ?_
        refine xi_cmf (pc' := 16) kc_90_13 rfl rfl ?_
        refine xi_aload_n (pc' := 17) (x := 0) kc_90_16 rfl rfl ?_
        refine xi_getfield (pc' := 20) (v := .ref 94) kc_90_17 rfl rfl rfl A12 rfl ?_
        refine xi_iload_n (pc' := 21) (x := 2) kc_90_20 rfl rfl ?_
        refine xi_dup2 (pc' := 22) kc_90_21 rfl ⟨rfl, rfl⟩ ?_
        refine xcps4 (xj_get hy20 ry20 (i := 2) (by decide) (by decide)) (fun v21 ev21 bv21 dv21 => ?_)
        refine xi_iaload (pc' := 23) (v := v21) kc_90_22 rfl A20 (by decide) rfl (xi_in (by decide) (by rw [hy20]; decide)) ev21 ?_
        refine xi_iconst (pc' := 24) (v := 1) kc_90_23 rfl rfl ?_
        refine xcps2 (α := Int32) ((v21 : Int32) + 1) (fun v22 ev22 => ?_)
        have rv22 := xc_rng v22
        refine xi_iadd (pc' := 25) (v := v22) kc_90_24 rfl ev22 ?_
        refine xcps4 (xj_set (v := v22) hy20 ry20 2 (by first | omega | decide) (by first | omega | decide)) (fun y23 s23 hy23 ry23 => ?_)
        refine xi_iastore (pc' := 26) (x' := y23) kc_90_25 rfl A20 rfl (xi_in (by decide) (by rw [hy20]; decide)) s23 (fun hh23 eh23 => ?_)
        have K24 := xk_pa K (xk_wa rfl) xD_94 hy23 ry23 eh23
        refine xi_iload_n (pc' := 27) (x := (-2)) kc_90_26 rfl rfl ?_
        refine xi_ireturn kc_90_27 mr_90 rfl ?_
        show xw J ov (d + 2) 165 (39, [(0, .ref 0), (1, .int x1), (2, .int x2)], [.int (-2)], hh23) _
        refine xi_ireturn kc_165_39 mr_165 rfl ?_
        have zcm2 : ((-2) : Int32).toInt = (-2) := by decide
        exact kk (-2) hh23 K24
      · refine xi_iff (pc' := 28) kc_165_25 rfl (xc_lt_f (X := x2.toInt) (Y := 0) rfl (by decide) (by omega)) ?_
        refine xi_iload_n (pc' := 29) (x := x2) kc_165_28 rfl rfl ?_
        refine xi_iconst (pc' := 30) (v := 2) kc_165_29 rfl rfl ?_
        by_cases c25 : x2.toInt ≤ 2
        · refine xi_cmt (pc' := 40) kc_165_30 rfl (xc_le_t (X := x2.toInt) (Y := 2) rfl (by decide) (by omega)) ?_
          refine xi_aload_n (pc' := 41) (x := 0) kc_165_40 rfl rfl ?_
          refine xi_getfield (pc' := 44) (v := .ref 93) kc_165_41 rfl rfl rfl A12 rfl ?_
          refine xi_iload_n (pc' := 45) (x := x1) kc_165_44 rfl rfl ?_
          have A26 := xk_ex K.1 xD_93
          obtain ⟨pt27, ept27, mpt27⟩ := xR_93 (i := x1) (by omega) (by omega)
          refine xj_aaload (pc' := 46) (b := pt27) kc_165_45 rfl A26 rfl (xi_in (n := 20) (by omega) (by omega)) ept27 ?_
          refine xi_astore_n (pc' := 47) (lv' := [(3, .ref pt27), (0, .ref 0), (1, .int x1), (2, .int x2)]) kc_165_46 rfl rfl (xm_lt ml_165 rfl) ?_
          refine xi_aload_n (pc' := 48) (x := 0) kc_165_47 rfl rfl ?_
          refine xi_getfield (pc' := 51) (v := .int u11) kc_165_48 rfl rfl rfl A12 rfl ?_
          refine xi_aload_n (pc' := 52) (x := pt27) kc_165_51 rfl rfl ?_
          obtain ⟨u28, u29, u30, u31, u32, u33, bu28, bu29, bu30, bu31, bu32, bu33, A34⟩ := xg_trial K.1 mpt27
          refine xi_getfield (pc' := 55) (v := .int u32) kc_165_52 rfl rfl rfl A34 rfl ?_
          by_cases c35 : u32.toInt ≤ u11.toInt
          · refine xi_cmt (pc' := 65) kc_165_55 rfl (xc_ge_t (X := u11.toInt) (Y := u32.toInt) rfl rfl (by omega)) ?_
            refine xi_aload_n (pc' := 66) (x := 0) kc_165_65 rfl rfl ?_
            refine xi_getfield (pc' := 69) (v := .ref 1) kc_165_66 rfl rfl rfl A12 rfl ?_
            refine xi_aload_n (pc' := 70) (x := pt27) kc_165_69 rfl rfl ?_
            refine xi_getfield (pc' := 73) (v := .int u28) kc_165_70 rfl rfl rfl A34 rfl ?_
            refine xi_aload_n (pc' := 74) (x := pt27) kc_165_73 rfl rfl ?_
            refine xi_getfield (pc' := 77) (v := .int u31) kc_165_74 rfl rfl rfl A34 rfl ?_
            refine xi_aload_n (pc' := 78) (x := pt27) kc_165_77 rfl rfl ?_
            refine xi_getfield (pc' := 81) (v := .int u32) kc_165_78 rfl rfl rfl A34 rfl ?_
            refine xp_1 K.1 (fun u36 u37 bu36 bu37 A38 => ?_)
            refine xi_virtual (mj := 166) (as := [.int u28, .int u31, .int u32]) (st1 := []) (lv0 := [(0, .ref 1), (1, .int u28), (2, .int u31), (3, .int u32)]) kc_165_81 rfl rfl rfl rfl rfl A38 (Nat.le_of_ble_eq_true rfl) (hJ _ _ _ _ (by decide)) (xm_le ml_166 rfl) rfl ?_
            refine mt_166_0 hJ hov1 hov2 (d := d) (x1 := u28) (x2 := u31) (x3 := u32) K.1 (fun r39 hh40 K41 => ?_)
            have br39 := xc_rng r39
            have K42 := xk_tr K K41 rfl
            refine xp_0 K42.1 (fun u43 u44 bu43 bu44 A45 => ?_)
            have e46 : u11 = u44 := xk_eqi (q := 9) K41 rfl A12 A45 rfl rfl
            subst e46
            refine xp_1 K42.1 (fun u47 u48 bu47 bu48 A49 => ?_)
            have e50 : u36 = u47 := xk_eqi (q := 5) K41 rfl A38 A49 rfl rfl
            subst e50
            show xw J ov (d + 2) 165 (84, [(3, .ref pt27), (0, .ref 0), (1, .int x1), (2, .int x2)], [.int r39], hh40) _
            refine xi_istore (pc' := 86) (lv' := [(4, .int r39), (3, .ref pt27), (0, .ref 0), (1, .int x1), (2, .int x2)]) kc_165_84 rfl rfl (xm_lt ml_165 rfl) ?_
            refine xi_aload_n (pc' := 87) (x := 0) kc_165_86 rfl rfl ?_
            refine xi_getfield (pc' := 90) (v := .ref 1) kc_165_87 rfl rfl rfl A45 rfl ?_
            refine xi_aload_n (pc' := 91) (x := pt27) kc_165_90 rfl rfl ?_
            obtain ⟨u51, u52, u53, u54, u55, u56, bu51, bu52, bu53, bu54, bu55, bu56, A57⟩ := xg_trial K42.1 mpt27
            refine xi_getfield (pc' := 94) (v := .int u51) kc_165_91 rfl rfl rfl A57 rfl ?_
            refine xi_aload_n (pc' := 95) (x := pt27) kc_165_94 rfl rfl ?_
            refine xi_getfield (pc' := 98) (v := .int u54) kc_165_95 rfl rfl rfl A57 rfl ?_
            refine xi_aload_n (pc' := 99) (x := pt27) kc_165_98 rfl rfl ?_
            refine xi_getfield (pc' := 102) (v := .int u55) kc_165_99 rfl rfl rfl A57 rfl ?_
            refine xi_aload_n (pc' := 103) (x := pt27) kc_165_102 rfl rfl ?_
            refine xi_getfield (pc' := 106) (v := .int u54) kc_165_103 rfl rfl rfl A57 rfl ?_
            refine xcps2 (α := Int32) ((u55 : Int32) - u54) (fun v58 ev58 => ?_)
            have rv58 := xc_rng v58
            refine xi_isub (pc' := 107) (v := v58) kc_165_106 rfl ev58 ?_
            refine xcps2 (α := Int32) ((u54 : Int32) - v58) (fun v59 ev59 => ?_)
            have rv59 := xc_rng v59
            refine xi_isub (pc' := 108) (v := v59) kc_165_107 rfl ev59 ?_
            refine xi_aload_n (pc' := 109) (x := pt27) kc_165_108 rfl rfl ?_
            refine xi_getfield (pc' := 112) (v := .int u54) kc_165_109 rfl rfl rfl A57 rfl ?_
            refine xi_virtual (mj := 166) (as := [.int u51, .int v59, .int u54]) (st1 := []) (lv0 := [(0, .ref 1), (1, .int u51), (2, .int v59), (3, .int u54)]) kc_165_112 rfl rfl rfl rfl rfl A49 (Nat.le_of_ble_eq_true rfl) (hJ _ _ _ _ (by decide)) (xm_le ml_166 rfl) rfl ?_
            refine mt_166_0 hJ hov1 hov2 (d := d) (x1 := u51) (x2 := v59) (x3 := u54) K42.1 (fun r60 hh61 K62 => ?_)
            have br60 := xc_rng r60
            have K63 := xk_tr K42 K62 rfl
            refine xp_0 K63.1 (fun u64 u65 bu64 bu65 A66 => ?_)
            have e67 : u11 = u65 := xk_eqi (q := 9) K62 rfl A45 A66 rfl rfl
            subst e67
            refine xp_1 K63.1 (fun u68 u69 bu68 bu69 A70 => ?_)
            have e71 : u36 = u68 := xk_eqi (q := 5) K62 rfl A49 A70 rfl rfl
            subst e71
            show xw J ov (d + 2) 165 (115, [(4, .int r39), (3, .ref pt27), (0, .ref 0), (1, .int x1), (2, .int x2)], [.int r60], hh61) _
            refine xi_istore (pc' := 117) (lv' := [(5, .int r60), (4, .int r39), (3, .ref pt27), (0, .ref 0), (1, .int x1), (2, .int x2)]) kc_165_115 rfl rfl (xm_lt ml_165 rfl) ?_
            refine xi_iload_n (pc' := 118) (x := x2) kc_165_117 rfl rfl ?_
            refine xi_iconst (pc' := 119) (v := 2) kc_165_118 rfl rfl ?_
            by_cases c72 : x2.toInt = 2
            · refine xi_cmf (pc' := 122) kc_165_119 rfl (xc_ne_f (X := x2.toInt) (Y := 2) rfl (by decide) (by omega)) ?_
              refine xi_iload (pc' := 124) (x := r39) kc_165_122 rfl rfl ?_
              refine xi_iload (pc' := 126) (x := r60) kc_165_124 rfl rfl ?_
              by_cases c73 : r60.toInt ≤ r39.toInt
              · refine xi_cmt (pc' := 133) kc_165_126 rfl (xc_ge_t (X := r39.toInt) (Y := r60.toInt) rfl rfl (by omega)) ?_
                refine xi_iconst (pc' := 134) (v := 0) kc_165_133 rfl rfl ?_
                refine xi_ireturn kc_165_134 mr_165 rfl ?_
                have zc0 : (0 : Int32).toInt = 0 := by decide
                exact kk 0 hh61 K63
              · refine xi_cmf (pc' := 129) kc_165_126 rfl (xc_ge_f (X := r39.toInt) (Y := r60.toInt) rfl rfl (by omega)) ?_
                refine xi_iconst (pc' := 130) (v := 1) kc_165_129 rfl rfl ?_
                refine xi_goto (pc' := 134) kc_165_130 rfl ?_
                refine xi_ireturn kc_165_134 mr_165 rfl ?_
                have zc1 : (1 : Int32).toInt = 1 := by decide
                exact kk 1 hh61 K63
            · refine xi_cmt (pc' := 135) kc_165_119 rfl (xc_ne_t (X := x2.toInt) (Y := 2) rfl (by decide) (by omega)) ?_
              refine xi_iload_n (pc' := 136) (x := x2) kc_165_135 rfl rfl ?_
              by_cases c74 : x2.toInt = 0
              · refine xi_iff (pc' := 139) kc_165_136 rfl (xc_ne_f (X := x2.toInt) (Y := 0) rfl (by decide) (by omega)) ?_
                refine xi_iload (pc' := 141) (x := r39) kc_165_139 rfl rfl ?_
                refine xi_goto (pc' := 146) kc_165_141 rfl ?_
                refine xi_ireturn kc_165_146 mr_165 rfl ?_
                exact kk r39 hh61 K63
              · refine xi_ift (pc' := 144) kc_165_136 rfl (xc_ne_t (X := x2.toInt) (Y := 0) rfl (by decide) (by omega)) ?_
                refine xi_iload (pc' := 146) (x := r60) kc_165_144 rfl rfl ?_
                refine xi_ireturn kc_165_146 mr_165 rfl ?_
                exact kk r60 hh61 K63
          · refine xi_cmf (pc' := 58) kc_165_55 rfl (xc_ge_f (X := u11.toInt) (Y := u32.toInt) rfl rfl (by omega)) ?_
            refine xi_aload_n (pc' := 59) (x := 0) kc_165_58 rfl rfl ?_
            refine xi_bipush (pc' := 61) (v := (-3)) kc_165_59 rfl rfl ?_
            refine xi_virtual (mj := 90) (as := [.int (-3)]) (st1 := []) (lv0 := [(0, .ref 0), (1, .int (-3))]) kc_165_61 rfl rfl rfl rfl rfl A12 (Nat.le_of_ble_eq_true rfl) (hJ _ _ _ _ (by decide)) (xm_le ml_90 rfl) rfl ?_
            refine xi_iload_n (pc' := 1) (x := (-3)) kc_90_0 rfl rfl ?_
            refine xi_ineg (pc' := 2) (v := 3) kc_90_1 rfl rfl ?_
            refine xi_istore_n (pc' := 3) (lv' := [(2, .int 3), (0, .ref 0), (1, .int (-3))]) kc_90_2 rfl rfl (xm_lt ml_90 rfl) ?_
            refine xi_iload_n (pc' := 4) (x := 3) kc_90_3 rfl rfl ?_
            refine xi_iff (pc' := 7) kc_90_4 rfl rfl ?_
            refine xi_iload_n (pc' := 8) (x := 3) kc_90_7 rfl rfl ?_
            refine xi_aload_n (pc' := 9) (x := 0) kc_90_8 rfl rfl ?_
            refine xi_getfield (pc' := 12) (v := .ref 94) kc_90_9 rfl rfl rfl A12 rfl ?_
            refine xcps4 (xk_arr K.1 xD_94) (fun y75 A75 hy75 ry75 => ?_)
            refine xi_arraylength (pc' := 13) (n := 7) (v := 7) kc_90_12 rfl (xl_lenI (by decide) (by decide) A75 hy75) rfl ?_
            refine xi_cmf (pc' := 16) kc_90_13 rfl rfl ?_
            refine xi_aload_n (pc' := 17) (x := 0) kc_90_16 rfl rfl ?_
            refine xi_getfield (pc' := 20) (v := .ref 94) kc_90_17 rfl rfl rfl A12 rfl ?_
            refine xi_iload_n (pc' := 21) (x := 3) kc_90_20 rfl rfl ?_
            refine xi_dup2 (pc' := 22) kc_90_21 rfl ⟨rfl, rfl⟩ ?_
            refine xcps4 (xj_get hy75 ry75 (i := 3) (by decide) (by decide)) (fun v76 ev76 bv76 dv76 => ?_)
            refine xi_iaload (pc' := 23) (v := v76) kc_90_22 rfl A75 (by decide) rfl (xi_in (by decide) (by rw [hy75]; decide)) ev76 ?_
            refine xi_iconst (pc' := 24) (v := 1) kc_90_23 rfl rfl ?_
            refine xcps2 (α := Int32) ((v76 : Int32) + 1) (fun v77 ev77 => ?_)
            have rv77 := xc_rng v77
            refine xi_iadd (pc' := 25) (v := v77) kc_90_24 rfl ev77 ?_
            refine xcps4 (xj_set (v := v77) hy75 ry75 3 (by first | omega | decide) (by first | omega | decide)) (fun y78 s78 hy78 ry78 => ?_)
            refine xi_iastore (pc' := 26) (x' := y78) kc_90_25 rfl A75 rfl (xi_in (by decide) (by rw [hy75]; decide)) s78 (fun hh78 eh78 => ?_)
            have K79 := xk_pa K (xk_wa rfl) xD_94 hy78 ry78 eh78
            refine xi_iload_n (pc' := 27) (x := (-3)) kc_90_26 rfl rfl ?_
            refine xi_ireturn kc_90_27 mr_90 rfl ?_
            show xw J ov (d + 2) 165 (64, [(3, .ref pt27), (0, .ref 0), (1, .int x1), (2, .int x2)], [.int (-3)], hh78) _
            refine xi_ireturn kc_165_64 mr_165 rfl ?_
            have zcm3 : ((-3) : Int32).toInt = (-3) := by decide
            exact kk (-3) hh78 K79
        · refine xi_cmf (pc' := 33) kc_165_30 rfl (xc_le_f (X := x2.toInt) (Y := 2) rfl (by decide) (by omega)) ?_
          refine xi_aload_n (pc' := 34) (x := 0) kc_165_33 rfl rfl ?_
          refine xi_bipush (pc' := 36) (v := (-2)) kc_165_34 rfl rfl ?_
          refine xi_virtual (mj := 90) (as := [.int (-2)]) (st1 := []) (lv0 := [(0, .ref 0), (1, .int (-2))]) kc_165_36 rfl rfl rfl rfl rfl A12 (Nat.le_of_ble_eq_true rfl) (hJ _ _ _ _ (by decide)) (xm_le ml_90 rfl) rfl ?_
          refine xi_iload_n (pc' := 1) (x := (-2)) kc_90_0 rfl rfl ?_
          refine xi_ineg (pc' := 2) (v := 2) kc_90_1 rfl rfl ?_
          refine xi_istore_n (pc' := 3) (lv' := [(2, .int 2), (0, .ref 0), (1, .int (-2))]) kc_90_2 rfl rfl (xm_lt ml_90 rfl) ?_
          refine xi_iload_n (pc' := 4) (x := 2) kc_90_3 rfl rfl ?_
          refine xi_iff (pc' := 7) kc_90_4 rfl rfl ?_
          refine xi_iload_n (pc' := 8) (x := 2) kc_90_7 rfl rfl ?_
          refine xi_aload_n (pc' := 9) (x := 0) kc_90_8 rfl rfl ?_
          refine xi_getfield (pc' := 12) (v := .ref 94) kc_90_9 rfl rfl rfl A12 rfl ?_
          refine xcps4 (xk_arr K.1 xD_94) (fun y80 A80 hy80 ry80 => ?_)
          refine xi_arraylength (pc' := 13) (n := 7) (v := 7) kc_90_12 rfl (xl_lenI (by decide) (by decide) A80 hy80) rfl ?_
          refine xi_cmf (pc' := 16) kc_90_13 rfl rfl ?_
          refine xi_aload_n (pc' := 17) (x := 0) kc_90_16 rfl rfl ?_
          refine xi_getfield (pc' := 20) (v := .ref 94) kc_90_17 rfl rfl rfl A12 rfl ?_
          refine xi_iload_n (pc' := 21) (x := 2) kc_90_20 rfl rfl ?_
          refine xi_dup2 (pc' := 22) kc_90_21 rfl ⟨rfl, rfl⟩ ?_
          refine xcps4 (xj_get hy80 ry80 (i := 2) (by decide) (by decide)) (fun v81 ev81 bv81 dv81 => ?_)
          refine xi_iaload (pc' := 23) (v := v81) kc_90_22 rfl A80 (by decide) rfl (xi_in (by decide) (by rw [hy80]; decide)) ev81 ?_
          refine xi_iconst (pc' := 24) (v := 1) kc_90_23 rfl rfl ?_
          refine xcps2 (α := Int32) ((v81 : Int32) + 1) (fun v82 ev82 => ?_)
          have rv82 := xc_rng v82
          refine xi_iadd (pc' := 25) (v := v82) kc_90_24 rfl ev82 ?_
          refine xcps4 (xj_set (v := v82) hy80 ry80 2 (by first | omega | decide) (by first | omega | decide)) (fun y83 s83 hy83 ry83 => ?_)
          refine xi_iastore (pc' := 26) (x' := y83) kc_90_25 rfl A80 rfl (xi_in (by decide) (by rw [hy80]; decide)) s83 (fun hh83 eh83 => ?_)
          have K84 := xk_pa K (xk_wa rfl) xD_94 hy83 ry83 eh83
          refine xi_iload_n (pc' := 27) (x := (-2)) kc_90_26 rfl rfl ?_
          refine xi_ireturn kc_90_27 mr_90 rfl ?_
          show xw J ov (d + 2) 165 (39, [(0, .ref 0), (1, .int x1), (2, .int x2)], [.int (-2)], hh83) _
          refine xi_ireturn kc_165_39 mr_165 rfl ?_
          have zcm2 : ((-2) : Int32).toInt = (-2) := by decide
          exact kk (-2) hh83 K84
set_option maxHeartbeats 4000000 in
theorem mt_167_0 {J : xe_J} {ov : List (List Int32)} (hJ : ∀ d mj as h, mj ≠ xe_loff → J d mj as h = none) (hov1 : ov[1]? = some [10, 0, 0, 0, 0, 0]) (hov2 : ov[2]? = some [99, 30, 50, 50, 1, 99999]) {d : Nat} {Q : Option Value → xe_H → Prop} {h : xe_H} {x1 : Int32} {x2 : Int32} {x3 : Int32} {x4 : Int32} (T : xt h) (kk : (∀ (r : Int32) (h' : xe_H), ((-2) ≤ r.toInt ∧ r.toInt ≤ 2) → xk [(0, 9), (115, 1), (29, 0), (31, 0), (33, 0), (35, 0), (37, 0), (39, 0), (41, 0), (43, 0), (45, 0), (47, 0), (49, 0), (51, 0), (125, 0), (29, 2), (31, 2), (33, 2), (35, 2), (37, 2), (39, 2), (41, 2), (43, 2), (45, 2), (47, 2), (49, 2), (51, 2), (127, 0), (1, 5), (115, 23)] h h' → Q (some (.int r)) h')) : xw J ov (d + 1) 167 (0, [(0, .ref 0), (1, .int x1), (2, .int x2), (3, .int x3), (4, .int x4)], [], h) Q := by
  have K : xk [(0, 9), (115, 1), (29, 0), (31, 0), (33, 0), (35, 0), (37, 0), (39, 0), (41, 0), (43, 0), (45, 0), (47, 0), (49, 0), (51, 0), (125, 0), (29, 2), (31, 2), (33, 2), (35, 2), (37, 2), (39, 2), (41, 2), (43, 2), (45, 2), (47, 2), (49, 2), (51, 2), (127, 0), (1, 5), (115, 23)] h h := xk_re T
  have rx1 := xc_rng x1
  have rx2 := xc_rng x2
  have rx3 := xc_rng x3
  have rx4 := xc_rng x4
  refine xi_iload_n (pc' := 1) (x := x1) kc_167_0 rfl rfl ?_
  by_cases c1 : x1.toInt < 0
  · refine xi_ift (pc' := 29) kc_167_1 rfl (xc_lt_t (X := x1.toInt) (Y := 0) rfl (by decide) (by omega)) ?_
    refine xi_aload_n (pc' := 30) (x := 0) kc_167_29 rfl rfl ?_
    refine xi_iconst (pc' := 31) (v := (-1)) kc_167_30 rfl rfl ?_
    refine xp_0 K.1 (fun u2 u3 bu2 bu3 A4 => ?_)
    refine xi_virtual (mj := 90) (as := [.int (-1)]) (st1 := []) (lv0 := [(0, .ref 0), (1, .int (-1))]) kc_167_31 rfl rfl rfl rfl rfl A4 (Nat.le_of_ble_eq_true rfl) (hJ _ _ _ _ (by decide)) (xm_le ml_90 rfl) rfl ?_
    refine xi_iload_n (pc' := 1) (x := (-1)) kc_90_0 rfl rfl ?_
    refine xi_ineg (pc' := 2) (v := 1) kc_90_1 rfl rfl ?_
    refine xi_istore_n (pc' := 3) (lv' := [(2, .int 1), (0, .ref 0), (1, .int (-1))]) kc_90_2 rfl rfl (xm_lt ml_90 rfl) ?_
    refine xi_iload_n (pc' := 4) (x := 1) kc_90_3 rfl rfl ?_
    refine xi_iff (pc' := 7) kc_90_4 rfl rfl ?_
    refine xi_iload_n (pc' := 8) (x := 1) kc_90_7 rfl rfl ?_
    refine xi_aload_n (pc' := 9) (x := 0) kc_90_8 rfl rfl ?_
    refine xi_getfield (pc' := 12) (v := .ref 94) kc_90_9 rfl rfl rfl A4 rfl ?_
    refine xcps4 (xk_arr K.1 xD_94) (fun y5 A5 hy5 ry5 => ?_)
    refine xi_arraylength (pc' := 13) (n := 7) (v := 7) kc_90_12 rfl (xl_lenI (by decide) (by decide) A5 hy5) rfl ?_
    refine xi_cmf (pc' := 16) kc_90_13 rfl rfl ?_
    refine xi_aload_n (pc' := 17) (x := 0) kc_90_16 rfl rfl ?_
    refine xi_getfield (pc' := 20) (v := .ref 94) kc_90_17 rfl rfl rfl A4 rfl ?_
    refine xi_iload_n (pc' := 21) (x := 1) kc_90_20 rfl rfl ?_
    refine xi_dup2 (pc' := 22) kc_90_21 rfl ⟨rfl, rfl⟩ ?_
    refine xcps4 (xj_get hy5 ry5 (i := 1) (by decide) (by decide)) (fun v6 ev6 bv6 dv6 => ?_)
    refine xi_iaload (pc' := 23) (v := v6) kc_90_22 rfl A5 (by decide) rfl (xi_in (by decide) (by rw [hy5]; decide)) ev6 ?_
    refine xi_iconst (pc' := 24) (v := 1) kc_90_23 rfl rfl ?_
    refine xcps2 (α := Int32) ((v6 : Int32) + 1) (fun v7 ev7 => ?_)
    have rv7 := xc_rng v7
    refine xi_iadd (pc' := 25) (v := v7) kc_90_24 rfl ev7 ?_
    refine xcps4 (xj_set (v := v7) hy5 ry5 1 (by first | omega | decide) (by first | omega | decide)) (fun y8 s8 hy8 ry8 => ?_)
    refine xi_iastore (pc' := 26) (x' := y8) kc_90_25 rfl A5 rfl (xi_in (by decide) (by rw [hy5]; decide)) s8 (fun hh8 eh8 => ?_)
    have K9 := xk_pa K (xk_wa rfl) xD_94 hy8 ry8 eh8
    refine xi_iload_n (pc' := 27) (x := (-1)) kc_90_26 rfl rfl ?_
    refine xi_ireturn kc_90_27 mr_90 rfl ?_
    show xw J ov (d + 1) 167 (34, [(0, .ref 0), (1, .int x1), (2, .int x2), (3, .int x3), (4, .int x4)], [.int (-1)], hh8) _
    refine xi_ireturn kc_167_34 mr_167 rfl ?_
    have zcm1 : ((-1) : Int32).toInt = (-1) := by decide
    exact kk (-1) hh8 (by omega) K9
  · refine xi_iff (pc' := 4) kc_167_1 rfl (xc_lt_f (X := x1.toInt) (Y := 0) rfl (by decide) (by omega)) ?_
    refine xi_iload_n (pc' := 5) (x := x1) kc_167_4 rfl rfl ?_
    refine xi_bipush (pc' := 7) (v := 24) kc_167_5 rfl rfl ?_
    by_cases c10 : 24 ≤ x1.toInt
    · refine xi_cmt (pc' := 29) kc_167_7 rfl (xc_ge_t (X := x1.toInt) (Y := 24) rfl (by decide) (by omega)) ?_
      refine xi_aload_n (pc' := 30) (x := 0) kc_167_29 rfl rfl ?_
      refine xi_iconst (pc' := 31) (v := (-1)) kc_167_30 rfl rfl ?_
      refine xp_0 K.1 (fun u11 u12 bu11 bu12 A13 => ?_)
      refine xi_virtual (mj := 90) (as := [.int (-1)]) (st1 := []) (lv0 := [(0, .ref 0), (1, .int (-1))]) kc_167_31 rfl rfl rfl rfl rfl A13 (Nat.le_of_ble_eq_true rfl) (hJ _ _ _ _ (by decide)) (xm_le ml_90 rfl) rfl ?_
      refine xi_iload_n (pc' := 1) (x := (-1)) kc_90_0 rfl rfl ?_
      refine xi_ineg (pc' := 2) (v := 1) kc_90_1 rfl rfl ?_
      refine xi_istore_n (pc' := 3) (lv' := [(2, .int 1), (0, .ref 0), (1, .int (-1))]) kc_90_2 rfl rfl (xm_lt ml_90 rfl) ?_
      refine xi_iload_n (pc' := 4) (x := 1) kc_90_3 rfl rfl ?_
      refine xi_iff (pc' := 7) kc_90_4 rfl rfl ?_
      refine xi_iload_n (pc' := 8) (x := 1) kc_90_7 rfl rfl ?_
      refine xi_aload_n (pc' := 9) (x := 0) kc_90_8 rfl rfl ?_
      refine xi_getfield (pc' := 12) (v := .ref 94) kc_90_9 rfl rfl rfl A13 rfl ?_
      refine xcps4 (xk_arr K.1 xD_94) (fun y14 A14 hy14 ry14 => ?_)
      refine xi_arraylength (pc' := 13) (n := 7) (v := 7) kc_90_12 rfl (xl_lenI (by decide) (by decide) A14 hy14) rfl ?_
      refine xi_cmf (pc' := 16) kc_90_13 rfl rfl ?_
      refine xi_aload_n (pc' := 17) (x := 0) kc_90_16 rfl rfl ?_
      refine xi_getfield (pc' := 20) (v := .ref 94) kc_90_17 rfl rfl rfl A13 rfl ?_
      refine xi_iload_n (pc' := 21) (x := 1) kc_90_20 rfl rfl ?_
      refine xi_dup2 (pc' := 22) kc_90_21 rfl ⟨rfl, rfl⟩ ?_
      refine xcps4 (xj_get hy14 ry14 (i := 1) (by decide) (by decide)) (fun v15 ev15 bv15 dv15 => ?_)
      refine xi_iaload (pc' := 23) (v := v15) kc_90_22 rfl A14 (by decide) rfl (xi_in (by decide) (by rw [hy14]; decide)) ev15 ?_
      refine xi_iconst (pc' := 24) (v := 1) kc_90_23 rfl rfl ?_
      refine xcps2 (α := Int32) ((v15 : Int32) + 1) (fun v16 ev16 => ?_)
      have rv16 := xc_rng v16
      refine xi_iadd (pc' := 25) (v := v16) kc_90_24 rfl ev16 ?_
      refine xcps4 (xj_set (v := v16) hy14 ry14 1 (by first | omega | decide) (by first | omega | decide)) (fun y17 s17 hy17 ry17 => ?_)
      refine xi_iastore (pc' := 26) (x' := y17) kc_90_25 rfl A14 rfl (xi_in (by decide) (by rw [hy14]; decide)) s17 (fun hh17 eh17 => ?_)
      have K18 := xk_pa K (xk_wa rfl) xD_94 hy17 ry17 eh17
      refine xi_iload_n (pc' := 27) (x := (-1)) kc_90_26 rfl rfl ?_
      refine xi_ireturn kc_90_27 mr_90 rfl ?_
      show xw J ov (d + 1) 167 (34, [(0, .ref 0), (1, .int x1), (2, .int x2), (3, .int x3), (4, .int x4)], [.int (-1)], hh17) _
      refine xi_ireturn kc_167_34 mr_167 rfl ?_
      have zcm1 : ((-1) : Int32).toInt = (-1) := by decide
      exact kk (-1) hh17 (by omega) K18
    · refine xi_cmf (pc' := 10) kc_167_7 rfl (xc_ge_f (X := x1.toInt) (Y := 24) rfl (by decide) (by omega)) ?_
      refine xi_iload_n (pc' := 11) (x := x2) kc_167_10 rfl rfl ?_
      by_cases c19 : x2.toInt < 0
      · refine xi_ift (pc' := 29) kc_167_11 rfl (xc_lt_t (X := x2.toInt) (Y := 0) rfl (by decide) (by omega)) ?_
        refine xi_aload_n (pc' := 30) (x := 0) kc_167_29 rfl rfl ?_
        refine xi_iconst (pc' := 31) (v := (-1)) kc_167_30 rfl rfl ?_
        refine xp_0 K.1 (fun u20 u21 bu20 bu21 A22 => ?_)
        refine xi_virtual (mj := 90) (as := [.int (-1)]) (st1 := []) (lv0 := [(0, .ref 0), (1, .int (-1))]) kc_167_31 rfl rfl rfl rfl rfl A22 (Nat.le_of_ble_eq_true rfl) (hJ _ _ _ _ (by decide)) (xm_le ml_90 rfl) rfl ?_
        refine xi_iload_n (pc' := 1) (x := (-1)) kc_90_0 rfl rfl ?_
        refine xi_ineg (pc' := 2) (v := 1) kc_90_1 rfl rfl ?_
        refine xi_istore_n (pc' := 3) (lv' := [(2, .int 1), (0, .ref 0), (1, .int (-1))]) kc_90_2 rfl rfl (xm_lt ml_90 rfl) ?_
        refine xi_iload_n (pc' := 4) (x := 1) kc_90_3 rfl rfl ?_
        refine xi_iff (pc' := 7) kc_90_4 rfl rfl ?_
        refine xi_iload_n (pc' := 8) (x := 1) kc_90_7 rfl rfl ?_
        refine xi_aload_n (pc' := 9) (x := 0) kc_90_8 rfl rfl ?_
        refine xi_getfield (pc' := 12) (v := .ref 94) kc_90_9 rfl rfl rfl A22 rfl ?_
        refine xcps4 (xk_arr K.1 xD_94) (fun y23 A23 hy23 ry23 => ?_)
        refine xi_arraylength (pc' := 13) (n := 7) (v := 7) kc_90_12 rfl (xl_lenI (by decide) (by decide) A23 hy23) rfl ?_
        refine xi_cmf (pc' := 16) kc_90_13 rfl rfl ?_
        refine xi_aload_n (pc' := 17) (x := 0) kc_90_16 rfl rfl ?_
        refine xi_getfield (pc' := 20) (v := .ref 94) kc_90_17 rfl rfl rfl A22 rfl ?_
        refine xi_iload_n (pc' := 21) (x := 1) kc_90_20 rfl rfl ?_
        refine xi_dup2 (pc' := 22) kc_90_21 rfl ⟨rfl, rfl⟩ ?_
        refine xcps4 (xj_get hy23 ry23 (i := 1) (by decide) (by decide)) (fun v24 ev24 bv24 dv24 => ?_)
        refine xi_iaload (pc' := 23) (v := v24) kc_90_22 rfl A23 (by decide) rfl (xi_in (by decide) (by rw [hy23]; decide)) ev24 ?_
        refine xi_iconst (pc' := 24) (v := 1) kc_90_23 rfl rfl ?_
        refine xcps2 (α := Int32) ((v24 : Int32) + 1) (fun v25 ev25 => ?_)
        have rv25 := xc_rng v25
        refine xi_iadd (pc' := 25) (v := v25) kc_90_24 rfl ev25 ?_
        refine xcps4 (xj_set (v := v25) hy23 ry23 1 (by first | omega | decide) (by first | omega | decide)) (fun y26 s26 hy26 ry26 => ?_)
        refine xi_iastore (pc' := 26) (x' := y26) kc_90_25 rfl A23 rfl (xi_in (by decide) (by rw [hy23]; decide)) s26 (fun hh26 eh26 => ?_)
        have K27 := xk_pa K (xk_wa rfl) xD_94 hy26 ry26 eh26
        refine xi_iload_n (pc' := 27) (x := (-1)) kc_90_26 rfl rfl ?_
        refine xi_ireturn kc_90_27 mr_90 rfl ?_
        show xw J ov (d + 1) 167 (34, [(0, .ref 0), (1, .int x1), (2, .int x2), (3, .int x3), (4, .int x4)], [.int (-1)], hh26) _
        refine xi_ireturn kc_167_34 mr_167 rfl ?_
        have zcm1 : ((-1) : Int32).toInt = (-1) := by decide
        exact kk (-1) hh26 (by omega) K27
      · refine xi_iff (pc' := 14) kc_167_11 rfl (xc_lt_f (X := x2.toInt) (Y := 0) rfl (by decide) (by omega)) ?_
        refine xi_iload_n (pc' := 15) (x := x2) kc_167_14 rfl rfl ?_
        refine xi_iconst (pc' := 16) (v := 4) kc_167_15 rfl rfl ?_
        by_cases c28 : 4 ≤ x2.toInt
        · refine xi_cmt (pc' := 29) kc_167_16 rfl (xc_ge_t (X := x2.toInt) (Y := 4) rfl (by decide) (by omega)) ?_
          refine xi_aload_n (pc' := 30) (x := 0) kc_167_29 rfl rfl ?_
          refine xi_iconst (pc' := 31) (v := (-1)) kc_167_30 rfl rfl ?_
          refine xp_0 K.1 (fun u29 u30 bu29 bu30 A31 => ?_)
          refine xi_virtual (mj := 90) (as := [.int (-1)]) (st1 := []) (lv0 := [(0, .ref 0), (1, .int (-1))]) kc_167_31 rfl rfl rfl rfl rfl A31 (Nat.le_of_ble_eq_true rfl) (hJ _ _ _ _ (by decide)) (xm_le ml_90 rfl) rfl ?_
          refine xi_iload_n (pc' := 1) (x := (-1)) kc_90_0 rfl rfl ?_
          refine xi_ineg (pc' := 2) (v := 1) kc_90_1 rfl rfl ?_
          refine xi_istore_n (pc' := 3) (lv' := [(2, .int 1), (0, .ref 0), (1, .int (-1))]) kc_90_2 rfl rfl (xm_lt ml_90 rfl) ?_
          refine xi_iload_n (pc' := 4) (x := 1) kc_90_3 rfl rfl ?_
          refine xi_iff (pc' := 7) kc_90_4 rfl rfl ?_
          refine xi_iload_n (pc' := 8) (x := 1) kc_90_7 rfl rfl ?_
          refine xi_aload_n (pc' := 9) (x := 0) kc_90_8 rfl rfl ?_
          refine xi_getfield (pc' := 12) (v := .ref 94) kc_90_9 rfl rfl rfl A31 rfl ?_
          refine xcps4 (xk_arr K.1 xD_94) (fun y32 A32 hy32 ry32 => ?_)
          refine xi_arraylength (pc' := 13) (n := 7) (v := 7) kc_90_12 rfl (xl_lenI (by decide) (by decide) A32 hy32) rfl ?_
          refine xi_cmf (pc' := 16) kc_90_13 rfl rfl ?_
          refine xi_aload_n (pc' := 17) (x := 0) kc_90_16 rfl rfl ?_
          refine xi_getfield (pc' := 20) (v := .ref 94) kc_90_17 rfl rfl rfl A31 rfl ?_
          refine xi_iload_n (pc' := 21) (x := 1) kc_90_20 rfl rfl ?_
          refine xi_dup2 (pc' := 22) kc_90_21 rfl ⟨rfl, rfl⟩ ?_
          refine xcps4 (xj_get hy32 ry32 (i := 1) (by decide) (by decide)) (fun v33 ev33 bv33 dv33 => ?_)
          refine xi_iaload (pc' := 23) (v := v33) kc_90_22 rfl A32 (by decide) rfl (xi_in (by decide) (by rw [hy32]; decide)) ev33 ?_
          refine xi_iconst (pc' := 24) (v := 1) kc_90_23 rfl rfl ?_
          refine xcps2 (α := Int32) ((v33 : Int32) + 1) (fun v34 ev34 => ?_)
          have rv34 := xc_rng v34
          refine xi_iadd (pc' := 25) (v := v34) kc_90_24 rfl ev34 ?_
          refine xcps4 (xj_set (v := v34) hy32 ry32 1 (by first | omega | decide) (by first | omega | decide)) (fun y35 s35 hy35 ry35 => ?_)
          refine xi_iastore (pc' := 26) (x' := y35) kc_90_25 rfl A32 rfl (xi_in (by decide) (by rw [hy32]; decide)) s35 (fun hh35 eh35 => ?_)
          have K36 := xk_pa K (xk_wa rfl) xD_94 hy35 ry35 eh35
          refine xi_iload_n (pc' := 27) (x := (-1)) kc_90_26 rfl rfl ?_
          refine xi_ireturn kc_90_27 mr_90 rfl ?_
          show xw J ov (d + 1) 167 (34, [(0, .ref 0), (1, .int x1), (2, .int x2), (3, .int x3), (4, .int x4)], [.int (-1)], hh35) _
          refine xi_ireturn kc_167_34 mr_167 rfl ?_
          have zcm1 : ((-1) : Int32).toInt = (-1) := by decide
          exact kk (-1) hh35 (by omega) K36
        · refine xi_cmf (pc' := 19) kc_167_16 rfl (xc_ge_f (X := x2.toInt) (Y := 4) rfl (by decide) (by omega)) ?_
          refine xi_iload_n (pc' := 20) (x := x3) kc_167_19 rfl rfl ?_
          by_cases c37 : x3.toInt < 0
          · refine xi_ift (pc' := 29) kc_167_20 rfl (xc_lt_t (X := x3.toInt) (Y := 0) rfl (by decide) (by omega)) ?_
            refine xi_aload_n (pc' := 30) (x := 0) kc_167_29 rfl rfl ?_
            refine xi_iconst (pc' := 31) (v := (-1)) kc_167_30 rfl rfl ?_
            refine xp_0 K.1 (fun u38 u39 bu38 bu39 A40 => ?_)
            refine xi_virtual (mj := 90) (as := [.int (-1)]) (st1 := []) (lv0 := [(0, .ref 0), (1, .int (-1))]) kc_167_31 rfl rfl rfl rfl rfl A40 (Nat.le_of_ble_eq_true rfl) (hJ _ _ _ _ (by decide)) (xm_le ml_90 rfl) rfl ?_
            refine xi_iload_n (pc' := 1) (x := (-1)) kc_90_0 rfl rfl ?_
            refine xi_ineg (pc' := 2) (v := 1) kc_90_1 rfl rfl ?_
            refine xi_istore_n (pc' := 3) (lv' := [(2, .int 1), (0, .ref 0), (1, .int (-1))]) kc_90_2 rfl rfl (xm_lt ml_90 rfl) ?_
            refine xi_iload_n (pc' := 4) (x := 1) kc_90_3 rfl rfl ?_
            refine xi_iff (pc' := 7) kc_90_4 rfl rfl ?_
            refine xi_iload_n (pc' := 8) (x := 1) kc_90_7 rfl rfl ?_
            refine xi_aload_n (pc' := 9) (x := 0) kc_90_8 rfl rfl ?_
            refine xi_getfield (pc' := 12) (v := .ref 94) kc_90_9 rfl rfl rfl A40 rfl ?_
            refine xcps4 (xk_arr K.1 xD_94) (fun y41 A41 hy41 ry41 => ?_)
            refine xi_arraylength (pc' := 13) (n := 7) (v := 7) kc_90_12 rfl (xl_lenI (by decide) (by decide) A41 hy41) rfl ?_
            refine xi_cmf (pc' := 16) kc_90_13 rfl rfl ?_
            refine xi_aload_n (pc' := 17) (x := 0) kc_90_16 rfl rfl ?_
            refine xi_getfield (pc' := 20) (v := .ref 94) kc_90_17 rfl rfl rfl A40 rfl ?_
            refine xi_iload_n (pc' := 21) (x := 1) kc_90_20 rfl rfl ?_
            refine xi_dup2 (pc' := 22) kc_90_21 rfl ⟨rfl, rfl⟩ ?_
            refine xcps4 (xj_get hy41 ry41 (i := 1) (by decide) (by decide)) (fun v42 ev42 bv42 dv42 => ?_)
            refine xi_iaload (pc' := 23) (v := v42) kc_90_22 rfl A41 (by decide) rfl (xi_in (by decide) (by rw [hy41]; decide)) ev42 ?_
            refine xi_iconst (pc' := 24) (v := 1) kc_90_23 rfl rfl ?_
            refine xcps2 (α := Int32) ((v42 : Int32) + 1) (fun v43 ev43 => ?_)
            have rv43 := xc_rng v43
            refine xi_iadd (pc' := 25) (v := v43) kc_90_24 rfl ev43 ?_
            refine xcps4 (xj_set (v := v43) hy41 ry41 1 (by first | omega | decide) (by first | omega | decide)) (fun y44 s44 hy44 ry44 => ?_)
            refine xi_iastore (pc' := 26) (x' := y44) kc_90_25 rfl A41 rfl (xi_in (by decide) (by rw [hy41]; decide)) s44 (fun hh44 eh44 => ?_)
            have K45 := xk_pa K (xk_wa rfl) xD_94 hy44 ry44 eh44
            refine xi_iload_n (pc' := 27) (x := (-1)) kc_90_26 rfl rfl ?_
            refine xi_ireturn kc_90_27 mr_90 rfl ?_
            show xw J ov (d + 1) 167 (34, [(0, .ref 0), (1, .int x1), (2, .int x2), (3, .int x3), (4, .int x4)], [.int (-1)], hh44) _
            refine xi_ireturn kc_167_34 mr_167 rfl ?_
            have zcm1 : ((-1) : Int32).toInt = (-1) := by decide
            exact kk (-1) hh44 (by omega) K45
          · refine xi_iff (pc' := 23) kc_167_20 rfl (xc_lt_f (X := x3.toInt) (Y := 0) rfl (by decide) (by omega)) ?_
            refine xi_iload_n (pc' := 24) (x := x3) kc_167_23 rfl rfl ?_
            refine xi_bipush (pc' := 26) (v := 6) kc_167_24 rfl rfl ?_
            by_cases c46 : x3.toInt < 6
            · refine xi_cmt (pc' := 35) kc_167_26 rfl (xc_lt_t (X := x3.toInt) (Y := 6) rfl (by decide) (by omega)) ?_
              refine xi_iload (pc' := 37) (x := x4) kc_167_35 rfl rfl ?_
              by_cases c47 : x4.toInt < 0
              · refine xi_ift (pc' := 46) kc_167_37 rfl (xc_lt_t (X := x4.toInt) (Y := 0) rfl (by decide) (by omega)) ?_
                refine xi_aload_n (pc' := 47) (x := 0) kc_167_46 rfl rfl ?_
                refine xi_bipush (pc' := 49) (v := (-2)) kc_167_47 rfl rfl ?_
                refine xp_0 K.1 (fun u48 u49 bu48 bu49 A50 => ?_)
                refine xi_virtual (mj := 90) (as := [.int (-2)]) (st1 := []) (lv0 := [(0, .ref 0), (1, .int (-2))]) kc_167_49 rfl rfl rfl rfl rfl A50 (Nat.le_of_ble_eq_true rfl) (hJ _ _ _ _ (by decide)) (xm_le ml_90 rfl) rfl ?_
                refine xi_iload_n (pc' := 1) (x := (-2)) kc_90_0 rfl rfl ?_
                refine xi_ineg (pc' := 2) (v := 2) kc_90_1 rfl rfl ?_
                refine xi_istore_n (pc' := 3) (lv' := [(2, .int 2), (0, .ref 0), (1, .int (-2))]) kc_90_2 rfl rfl (xm_lt ml_90 rfl) ?_
                refine xi_iload_n (pc' := 4) (x := 2) kc_90_3 rfl rfl ?_
                refine xi_iff (pc' := 7) kc_90_4 rfl rfl ?_
                refine xi_iload_n (pc' := 8) (x := 2) kc_90_7 rfl rfl ?_
                refine xi_aload_n (pc' := 9) (x := 0) kc_90_8 rfl rfl ?_
                refine xi_getfield (pc' := 12) (v := .ref 94) kc_90_9 rfl rfl rfl A50 rfl ?_
                refine xcps4 (xk_arr K.1 xD_94) (fun y51 A51 hy51 ry51 => ?_)
                refine xi_arraylength (pc' := 13) (n := 7) (v := 7) kc_90_12 rfl (xl_lenI (by decide) (by decide) A51 hy51) rfl ?_
                refine xi_cmf (pc' := 16) kc_90_13 rfl rfl ?_
                refine xi_aload_n (pc' := 17) (x := 0) kc_90_16 rfl rfl ?_
                refine xi_getfield (pc' := 20) (v := .ref 94) kc_90_17 rfl rfl rfl A50 rfl ?_
                refine xi_iload_n (pc' := 21) (x := 2) kc_90_20 rfl rfl ?_
                refine xi_dup2 (pc' := 22) kc_90_21 rfl ⟨rfl, rfl⟩ ?_
                refine xcps4 (xj_get hy51 ry51 (i := 2) (by decide) (by decide)) (fun v52 ev52 bv52 dv52 => ?_)
                refine xi_iaload (pc' := 23) (v := v52) kc_90_22 rfl A51 (by decide) rfl (xi_in (by decide) (by rw [hy51]; decide)) ev52 ?_
                refine xi_iconst (pc' := 24) (v := 1) kc_90_23 rfl rfl ?_
                refine xcps2 (α := Int32) ((v52 : Int32) + 1) (fun v53 ev53 => ?_)
                have rv53 := xc_rng v53
                refine xi_iadd (pc' := 25) (v := v53) kc_90_24 rfl ev53 ?_
                refine xcps4 (xj_set (v := v53) hy51 ry51 2 (by first | omega | decide) (by first | omega | decide)) (fun y54 s54 hy54 ry54 => ?_)
                refine xi_iastore (pc' := 26) (x' := y54) kc_90_25 rfl A51 rfl (xi_in (by decide) (by rw [hy51]; decide)) s54 (fun hh54 eh54 => ?_)
                have K55 := xk_pa K (xk_wa rfl) xD_94 hy54 ry54 eh54
                refine xi_iload_n (pc' := 27) (x := (-2)) kc_90_26 rfl rfl ?_
                refine xi_ireturn kc_90_27 mr_90 rfl ?_
                show xw J ov (d + 1) 167 (52, [(0, .ref 0), (1, .int x1), (2, .int x2), (3, .int x3), (4, .int x4)], [.int (-2)], hh54) _
                refine xi_ireturn kc_167_52 mr_167 rfl ?_
                have zcm2 : ((-2) : Int32).toInt = (-2) := by decide
                exact kk (-2) hh54 (by omega) K55
              · refine xi_iff (pc' := 40) kc_167_37 rfl (xc_lt_f (X := x4.toInt) (Y := 0) rfl (by decide) (by omega)) ?_
                refine xi_iload (pc' := 42) (x := x4) kc_167_40 rfl rfl ?_
                refine xi_iconst (pc' := 43) (v := 2) kc_167_42 rfl rfl ?_
                by_cases c56 : x4.toInt ≤ 2
                · refine xi_cmt (pc' := 53) kc_167_43 rfl (xc_le_t (X := x4.toInt) (Y := 2) rfl (by decide) (by omega)) ?_
                  refine xi_aload_n (pc' := 54) (x := 0) kc_167_53 rfl rfl ?_
                  refine xp_0 K.1 (fun u57 u58 bu57 bu58 A59 => ?_)
                  refine xi_getfield (pc' := 57) (v := .ref 80) kc_167_54 rfl rfl rfl A59 rfl ?_
                  refine xi_iload_n (pc' := 58) (x := x1) kc_167_57 rfl rfl ?_
                  refine xi_iload_n (pc' := 59) (x := x2) kc_167_58 rfl rfl ?_
                  refine xi_iload_n (pc' := 60) (x := x3) kc_167_59 rfl rfl ?_
                  refine xi_iload (pc' := 62) (x := x4) kc_167_60 rfl rfl ?_
                  have A60 := xq_80 K.1
                  refine xi_virtual (mj := 168) (as := [.int x1, .int x2, .int x3, .int x4]) (st1 := []) (lv0 := [(0, .ref 80), (1, .int x1), (2, .int x2), (3, .int x3), (4, .int x4)]) kc_167_62 rfl rfl rfl rfl rfl A60 (Nat.le_of_ble_eq_true rfl) (hJ _ _ _ _ (by decide)) (xm_le ml_168 rfl) rfl ?_
                  refine xi_iload_n (pc' := 1) (x := x1) kc_168_0 rfl rfl ?_
                  refine xi_iff (pc' := 4) kc_168_1 rfl (xc_lt_f (X := x1.toInt) (Y := 0) rfl (by decide) (by omega)) ?_
                  refine xi_iload_n (pc' := 5) (x := x1) kc_168_4 rfl rfl ?_
                  refine xi_bipush (pc' := 7) (v := 24) kc_168_5 rfl rfl ?_
                  refine xi_cmt (pc' := 12) kc_168_7 rfl (xc_lt_t (X := x1.toInt) (Y := 24) rfl (by decide) (by omega)) ?_
                  refine xi_aload_n (pc' := 13) (x := 80) kc_168_12 rfl rfl ?_
                  refine xi_getfield (pc' := 16) (v := .ref 83) kc_168_13 rfl rfl rfl A60 rfl ?_
                  refine xi_iload_n (pc' := 17) (x := x1) kc_168_16 rfl rfl ?_
                  refine xcps4 (xk_arr K.1 xD_83) (fun y61 A61 hy61 ry61 => ?_)
                  refine xcps4 (xj_get hy61 ry61 (i := x1) (by omega) (by omega)) (fun v62 ev62 bv62 dv62 => ?_)
                  refine xi_iaload (pc' := 18) (v := v62) kc_168_17 rfl A61 (by decide) rfl (xi_in (by omega) (by rw [hy61]; omega)) ev62 ?_
                  refine xi_istore (pc' := 20) (lv' := [(5, .int v62), (0, .ref 80), (1, .int x1), (2, .int x2), (3, .int x3), (4, .int x4)]) kc_168_18 rfl rfl (xm_lt ml_168 rfl) ?_
                  refine xi_aload_n (pc' := 21) (x := 80) kc_168_20 rfl rfl ?_
                  refine xi_getfield (pc' := 24) (v := .ref 81) kc_168_21 rfl rfl rfl A60 rfl ?_
                  refine xi_iload_n (pc' := 25) (x := x1) kc_168_24 rfl rfl ?_
                  refine xi_iload_n (pc' := 26) (x := x2) kc_168_25 rfl rfl ?_
                  refine xcps4 (xk_arr K.1 xD_81) (fun y63 A63 hy63 ry63 => ?_)
                  refine xcps4 (xj_set (v := x2) hy63 ry63 x1 (by first | omega | decide) (by first | omega | decide)) (fun y64 s64 hy64 ry64 => ?_)
                  refine xi_iastore (pc' := 27) (x' := y64) kc_168_26 rfl A63 rfl (xi_in (by omega) (by rw [hy63]; omega)) s64 (fun hh64 eh64 => ?_)
                  have K65 := xk_pa K (xk_wa rfl) xD_81 hy64 ry64 eh64
                  refine xi_aload_n (pc' := 28) (x := 80) kc_168_27 rfl rfl ?_
                  have A66 := ((eh64.2.1 80 (by decide)).trans A60)
                  refine xi_getfield (pc' := 31) (v := .ref 82) kc_168_28 rfl rfl rfl A66 rfl ?_
                  refine xi_iload_n (pc' := 32) (x := x1) kc_168_31 rfl rfl ?_
                  refine xi_iload_n (pc' := 33) (x := x3) kc_168_32 rfl rfl ?_
                  refine xcps4 (xk_arr K65.1 xD_82) (fun y67 A67 hy67 ry67 => ?_)
                  refine xcps4 (xj_set (v := x3) hy67 ry67 x1 (by first | omega | decide) (by first | omega | decide)) (fun y68 s68 hy68 ry68 => ?_)
                  refine xi_iastore (pc' := 34) (x' := y68) kc_168_33 rfl A67 rfl (xi_in (by omega) (by rw [hy67]; omega)) s68 (fun hh68 eh68 => ?_)
                  have K69 := xk_pa K65 (xk_wa rfl) xD_82 hy68 ry68 eh68
                  refine xi_aload_n (pc' := 35) (x := 80) kc_168_34 rfl rfl ?_
                  have A70 := ((eh68.2.1 80 (by decide)).trans A66)
                  refine xi_getfield (pc' := 38) (v := .ref 83) kc_168_35 rfl rfl rfl A70 rfl ?_
                  refine xi_iload_n (pc' := 39) (x := x1) kc_168_38 rfl rfl ?_
                  refine xi_iload (pc' := 41) (x := x4) kc_168_39 rfl rfl ?_
                  have A71 := ((eh68.2.1 83 (by decide)).trans ((eh64.2.1 83 (by decide)).trans A61))
                  refine xcps4 (xj_set (v := x4) hy61 ry61 x1 (by first | omega | decide) (by first | omega | decide)) (fun y72 s72 hy72 ry72 => ?_)
                  refine xi_iastore (pc' := 42) (x' := y72) kc_168_41 rfl A71 rfl (xi_in (by omega) (by rw [hy61]; omega)) s72 (fun hh72 eh72 => ?_)
                  have K73 := xk_pa K69 (xk_wa rfl) xD_83 hy72 ry72 eh72
                  refine xi_iload (pc' := 44) (x := v62) kc_168_42 rfl rfl ?_
                  refine xi_ireturn kc_168_44 mr_168 rfl ?_
                  show xw J ov (d + 1) 167 (65, [(0, .ref 0), (1, .int x1), (2, .int x2), (3, .int x3), (4, .int x4)], [.int v62], hh72) _
                  refine xi_ireturn kc_167_65 mr_167 rfl ?_
                  exact kk v62 hh72 (by omega) K73
                · refine xi_cmf (pc' := 46) kc_167_43 rfl (xc_le_f (X := x4.toInt) (Y := 2) rfl (by decide) (by omega)) ?_
                  refine xi_aload_n (pc' := 47) (x := 0) kc_167_46 rfl rfl ?_
                  refine xi_bipush (pc' := 49) (v := (-2)) kc_167_47 rfl rfl ?_
                  refine xp_0 K.1 (fun u74 u75 bu74 bu75 A76 => ?_)
                  refine xi_virtual (mj := 90) (as := [.int (-2)]) (st1 := []) (lv0 := [(0, .ref 0), (1, .int (-2))]) kc_167_49 rfl rfl rfl rfl rfl A76 (Nat.le_of_ble_eq_true rfl) (hJ _ _ _ _ (by decide)) (xm_le ml_90 rfl) rfl ?_
                  refine xi_iload_n (pc' := 1) (x := (-2)) kc_90_0 rfl rfl ?_
                  refine xi_ineg (pc' := 2) (v := 2) kc_90_1 rfl rfl ?_
                  refine xi_istore_n (pc' := 3) (lv' := [(2, .int 2), (0, .ref 0), (1, .int (-2))]) kc_90_2 rfl rfl (xm_lt ml_90 rfl) ?_
                  refine xi_iload_n (pc' := 4) (x := 2) kc_90_3 rfl rfl ?_
                  refine xi_iff (pc' := 7) kc_90_4 rfl rfl ?_
                  refine xi_iload_n (pc' := 8) (x := 2) kc_90_7 rfl rfl ?_
                  refine xi_aload_n (pc' := 9) (x := 0) kc_90_8 rfl rfl ?_
                  refine xi_getfield (pc' := 12) (v := .ref 94) kc_90_9 rfl rfl rfl A76 rfl ?_
                  refine xcps4 (xk_arr K.1 xD_94) (fun y77 A77 hy77 ry77 => ?_)
                  refine xi_arraylength (pc' := 13) (n := 7) (v := 7) kc_90_12 rfl (xl_lenI (by decide) (by decide) A77 hy77) rfl ?_
                  refine xi_cmf (pc' := 16) kc_90_13 rfl rfl ?_
                  refine xi_aload_n (pc' := 17) (x := 0) kc_90_16 rfl rfl ?_
                  refine xi_getfield (pc' := 20) (v := .ref 94) kc_90_17 rfl rfl rfl A76 rfl ?_
                  refine xi_iload_n (pc' := 21) (x := 2) kc_90_20 rfl rfl ?_
                  refine xi_dup2 (pc' := 22) kc_90_21 rfl ⟨rfl, rfl⟩ ?_
                  refine xcps4 (xj_get hy77 ry77 (i := 2) (by decide) (by decide)) (fun v78 ev78 bv78 dv78 => ?_)
                  refine xi_iaload (pc' := 23) (v := v78) kc_90_22 rfl A77 (by decide) rfl (xi_in (by decide) (by rw [hy77]; decide)) ev78 ?_
                  refine xi_iconst (pc' := 24) (v := 1) kc_90_23 rfl rfl ?_
                  refine xcps2 (α := Int32) ((v78 : Int32) + 1) (fun v79 ev79 => ?_)
                  have rv79 := xc_rng v79
                  refine xi_iadd (pc' := 25) (v := v79) kc_90_24 rfl ev79 ?_
                  refine xcps4 (xj_set (v := v79) hy77 ry77 2 (by first | omega | decide) (by first | omega | decide)) (fun y80 s80 hy80 ry80 => ?_)
                  refine xi_iastore (pc' := 26) (x' := y80) kc_90_25 rfl A77 rfl (xi_in (by decide) (by rw [hy77]; decide)) s80 (fun hh80 eh80 => ?_)
                  have K81 := xk_pa K (xk_wa rfl) xD_94 hy80 ry80 eh80
                  refine xi_iload_n (pc' := 27) (x := (-2)) kc_90_26 rfl rfl ?_
                  refine xi_ireturn kc_90_27 mr_90 rfl ?_
                  show xw J ov (d + 1) 167 (52, [(0, .ref 0), (1, .int x1), (2, .int x2), (3, .int x3), (4, .int x4)], [.int (-2)], hh80) _
                  refine xi_ireturn kc_167_52 mr_167 rfl ?_
                  have zcm2 : ((-2) : Int32).toInt = (-2) := by decide
                  exact kk (-2) hh80 (by omega) K81
            · refine xi_cmf (pc' := 29) kc_167_26 rfl (xc_lt_f (X := x3.toInt) (Y := 6) rfl (by decide) (by omega)) ?_
              refine xi_aload_n (pc' := 30) (x := 0) kc_167_29 rfl rfl ?_
              refine xi_iconst (pc' := 31) (v := (-1)) kc_167_30 rfl rfl ?_
              refine xp_0 K.1 (fun u82 u83 bu82 bu83 A84 => ?_)
              refine xi_virtual (mj := 90) (as := [.int (-1)]) (st1 := []) (lv0 := [(0, .ref 0), (1, .int (-1))]) kc_167_31 rfl rfl rfl rfl rfl A84 (Nat.le_of_ble_eq_true rfl) (hJ _ _ _ _ (by decide)) (xm_le ml_90 rfl) rfl ?_
              refine xi_iload_n (pc' := 1) (x := (-1)) kc_90_0 rfl rfl ?_
              refine xi_ineg (pc' := 2) (v := 1) kc_90_1 rfl rfl ?_
              refine xi_istore_n (pc' := 3) (lv' := [(2, .int 1), (0, .ref 0), (1, .int (-1))]) kc_90_2 rfl rfl (xm_lt ml_90 rfl) ?_
              refine xi_iload_n (pc' := 4) (x := 1) kc_90_3 rfl rfl ?_
              refine xi_iff (pc' := 7) kc_90_4 rfl rfl ?_
              refine xi_iload_n (pc' := 8) (x := 1) kc_90_7 rfl rfl ?_
              refine xi_aload_n (pc' := 9) (x := 0) kc_90_8 rfl rfl ?_
              refine xi_getfield (pc' := 12) (v := .ref 94) kc_90_9 rfl rfl rfl A84 rfl ?_
              refine xcps4 (xk_arr K.1 xD_94) (fun y85 A85 hy85 ry85 => ?_)
              refine xi_arraylength (pc' := 13) (n := 7) (v := 7) kc_90_12 rfl (xl_lenI (by decide) (by decide) A85 hy85) rfl ?_
              refine xi_cmf (pc' := 16) kc_90_13 rfl rfl ?_
              refine xi_aload_n (pc' := 17) (x := 0) kc_90_16 rfl rfl ?_
              refine xi_getfield (pc' := 20) (v := .ref 94) kc_90_17 rfl rfl rfl A84 rfl ?_
              refine xi_iload_n (pc' := 21) (x := 1) kc_90_20 rfl rfl ?_
              refine xi_dup2 (pc' := 22) kc_90_21 rfl ⟨rfl, rfl⟩ ?_
              refine xcps4 (xj_get hy85 ry85 (i := 1) (by decide) (by decide)) (fun v86 ev86 bv86 dv86 => ?_)
              refine xi_iaload (pc' := 23) (v := v86) kc_90_22 rfl A85 (by decide) rfl (xi_in (by decide) (by rw [hy85]; decide)) ev86 ?_
              refine xi_iconst (pc' := 24) (v := 1) kc_90_23 rfl rfl ?_
              refine xcps2 (α := Int32) ((v86 : Int32) + 1) (fun v87 ev87 => ?_)
              have rv87 := xc_rng v87
              refine xi_iadd (pc' := 25) (v := v87) kc_90_24 rfl ev87 ?_
              refine xcps4 (xj_set (v := v87) hy85 ry85 1 (by first | omega | decide) (by first | omega | decide)) (fun y88 s88 hy88 ry88 => ?_)
              refine xi_iastore (pc' := 26) (x' := y88) kc_90_25 rfl A85 rfl (xi_in (by decide) (by rw [hy85]; decide)) s88 (fun hh88 eh88 => ?_)
              have K89 := xk_pa K (xk_wa rfl) xD_94 hy88 ry88 eh88
              refine xi_iload_n (pc' := 27) (x := (-1)) kc_90_26 rfl rfl ?_
              refine xi_ireturn kc_90_27 mr_90 rfl ?_
              show xw J ov (d + 1) 167 (34, [(0, .ref 0), (1, .int x1), (2, .int x2), (3, .int x3), (4, .int x4)], [.int (-1)], hh88) _
              refine xi_ireturn kc_167_34 mr_167 rfl ?_
              have zcm1 : ((-1) : Int32).toInt = (-1) := by decide
              exact kk (-1) hh88 (by omega) K89
set_option maxHeartbeats 4000000 in
theorem lp_170_0 {J : xe_J} {ov : List (List Int32)} (hJ : ∀ d mj as h, mj ≠ xe_loff → J d mj as h = none) (hov1 : ov[1]? = some [10, 0, 0, 0, 0, 0]) (hov2 : ov[2]? = some [99, 30, 50, 50, 1, 99999]) {d : Nat} {Q : Option Value → xe_H → Prop} {hb : xe_H} (kk : (∀ (r : Int32) (h' : xe_H), xk [(0, 9), (115, 1), (83, 0), (29, 0), (31, 0), (33, 0), (35, 0), (37, 0), (39, 0), (41, 0), (43, 0), (45, 0), (47, 0), (49, 0), (51, 0), (125, 0), (29, 2), (31, 2), (33, 2), (35, 2), (37, 2), (39, 2), (41, 2), (43, 2), (45, 2), (47, 2), (49, 2), (51, 2), (127, 0), (1, 5), (115, 23)] hb h' → Q (some (.int r)) h')) : ∀ m : Nat, (∀ (x1 : Int32) (x2 : Int32) (h : xe_H), (0 ≤ x2.toInt ∧ x2.toInt ≤ 24) → xk [(0, 9), (115, 1), (83, 0), (29, 0), (31, 0), (33, 0), (35, 0), (37, 0), (39, 0), (41, 0), (43, 0), (45, 0), (47, 0), (49, 0), (51, 0), (125, 0), (29, 2), (31, 2), (33, 2), (35, 2), (37, 2), (39, 2), (41, 2), (43, 2), (45, 2), (47, 2), (49, 2), (51, 2), (127, 0), (1, 5), (115, 23)] hb h → (-25) * x2.toInt + 624 < (m : Int) → xw J ov (d + 3) 170 (4, [(0, .ref 80), (1, .int x1), (2, .int x2)], [], h) Q) ∧ (∀ (x1 : Int32) (x2 : Int32) (x3 : Int32) (h : xe_H), (0 ≤ x2.toInt ∧ x2.toInt ≤ 23) → (0 ≤ x3.toInt ∧ x3.toInt ≤ 23) → xk [(0, 9), (115, 1), (83, 0), (29, 0), (31, 0), (33, 0), (35, 0), (37, 0), (39, 0), (41, 0), (43, 0), (45, 0), (47, 0), (49, 0), (51, 0), (125, 0), (29, 2), (31, 2), (33, 2), (35, 2), (37, 2), (39, 2), (41, 2), (43, 2), (45, 2), (47, 2), (49, 2), (51, 2), (127, 0), (1, 5), (115, 23)] hb h → (-25) * x2.toInt + (-1) * x3.toInt + 623 < (m : Int) → xw J ov (d + 3) 170 (12, [(0, .ref 80), (1, .int x1), (2, .int x2), (3, .int x3)], [], h) Q) := by
  intro m
  induction m with
  | zero =>
    refine ⟨?_, ?_⟩
    · intro x1 x2 h b2 K hm; have rx1 := xc_rng x1; exfalso; omega
    · intro x1 x2 x3 h b2 b3 K hm; have rx1 := xc_rng x1; exfalso; omega
  | succ m ih =>
    obtain ⟨i0, i1⟩ := ih
    refine ⟨?_, ?_⟩
    · intro x1 x2 h b2 K hm
      have rx1 := xc_rng x1
      refine xi_iload_n (pc' := 5) (x := x2) kc_170_4 rfl rfl ?_
      refine xi_bipush (pc' := 7) (v := 24) kc_170_5 rfl rfl ?_
      by_cases c1 : 24 ≤ x2.toInt
      · refine xi_cmt (pc' := 61) kc_170_7 rfl (xc_ge_t (X := x2.toInt) (Y := 24) rfl (by decide) (by omega)) ?_
        refine xi_iload_n (pc' := 62) (x := x1) kc_170_61 rfl rfl ?_
        refine xi_ireturn kc_170_62 mr_170 rfl ?_
        exact kk x1 h K
      · refine xi_cmf (pc' := 10) kc_170_7 rfl (xc_ge_f (X := x2.toInt) (Y := 24) rfl (by decide) (by omega)) ?_
        refine xi_iconst (pc' := 11) (v := 0) kc_170_10 rfl rfl ?_
        refine xi_istore_n (pc' := 12) (lv' := [(3, .int 0), (0, .ref 80), (1, .int x1), (2, .int x2)]) kc_170_11 rfl rfl (xm_lt ml_170 rfl) ?_
        have zc0 : (0 : Int32).toInt = 0 := by decide
        refine xw_lv (b := [(0, .ref 80), (1, .int x1), (2, .int x2), (3, .int 0)]) (lvS_cons (lvS_cons (lvS_cons (lvS_cons (lvS_nil (show ([3, 0, 1, 2] : List Nat).Nodup by decide)) rfl) rfl) rfl) rfl) ?_
        exact i1 x1 x2 0 h (by omega) (by omega) K (by omega)
    · intro x1 x2 x3 h b2 b3 K hm
      have rx1 := xc_rng x1
      refine xi_iload_n (pc' := 13) (x := x3) kc_170_12 rfl rfl ?_
      refine xi_iload_n (pc' := 14) (x := x2) kc_170_13 rfl rfl ?_
      by_cases c1 : x2.toInt ≤ x3.toInt
      · refine xi_cmt (pc' := 55) kc_170_14 rfl (xc_ge_t (X := x3.toInt) (Y := x2.toInt) rfl rfl (by omega)) ?_
        refine xcps2 (α := Int32) (x2 + 1) (fun v2 ev2 => ?_)
        have zv2 : v2.toInt = (x2.toInt + 1) := by rw [← ev2]; exact (xz_add (X := x2.toInt) (Y := 1) rfl (by decide) (by omega) (by omega)).trans (by omega)
        refine xi_iinc (pc' := 58) (x := x2) (v := v2) (lv' := [(2, .int v2), (0, .ref 80), (1, .int x1), (3, .int x3)]) kc_170_55 rfl rfl ev2 rfl (xm_lt ml_170 rfl) ?_
        refine xi_goto (pc' := 4) kc_170_58 rfl ?_
        refine xw_lv (b := [(0, .ref 80), (1, .int x1), (2, .int v2)]) (lvS_cons (lvS_cons (lvS_cons (lvS_nil (show ([2, 0, 1, 3] : List Nat).Nodup by decide)) rfl) rfl) rfl) ?_
        exact i0 x1 v2 h (by omega) K (by omega)
      · refine xi_cmf (pc' := 17) kc_170_14 rfl (xc_ge_f (X := x3.toInt) (Y := x2.toInt) rfl rfl (by omega)) ?_
        refine xi_aload_n (pc' := 18) (x := 80) kc_170_17 rfl rfl ?_
        have A3 := xq_80 K.1
        refine xi_getfield (pc' := 21) (v := .ref 83) kc_170_18 rfl rfl rfl A3 rfl ?_
        refine xi_iload_n (pc' := 22) (x := x2) kc_170_21 rfl rfl ?_
        refine xcps4 (xk_arr K.1 xD_83) (fun y4 A4 hy4 ry4 => ?_)
        refine xcps4 (xj_get hy4 ry4 (i := x2) (by omega) (by omega)) (fun v5 ev5 bv5 dv5 => ?_)
        refine xi_iaload (pc' := 23) (v := v5) kc_170_22 rfl A4 (by decide) rfl (xi_in (by omega) (by rw [hy4]; omega)) ev5 ?_
        refine xi_iconst (pc' := 24) (v := 1) kc_170_23 rfl rfl ?_
        by_cases c6 : v5.toInt = 1
        · refine xi_cmf (pc' := 27) kc_170_24 rfl (xc_ne_f (X := v5.toInt) (Y := 1) rfl (by decide) (by omega)) ?_
          refine xi_aload_n (pc' := 28) (x := 80) kc_170_27 rfl rfl ?_
          refine xi_getfield (pc' := 31) (v := .ref 83) kc_170_28 rfl rfl rfl A3 rfl ?_
          refine xi_iload_n (pc' := 32) (x := x3) kc_170_31 rfl rfl ?_
          refine xcps4 (xj_get hy4 ry4 (i := x3) (by omega) (by omega)) (fun v7 ev7 bv7 dv7 => ?_)
          refine xi_iaload (pc' := 33) (v := v7) kc_170_32 rfl A4 (by decide) rfl (xi_in (by omega) (by rw [hy4]; omega)) ev7 ?_
          refine xi_iconst (pc' := 34) (v := 1) kc_170_33 rfl rfl ?_
          by_cases c8 : v7.toInt = 1
          · refine xi_cmf (pc' := 37) kc_170_34 rfl (xc_ne_f (X := v7.toInt) (Y := 1) rfl (by decide) (by omega)) ?_
            refine xi_aload_n (pc' := 38) (x := 80) kc_170_37 rfl rfl ?_
            refine xi_iload_n (pc' := 39) (x := x2) kc_170_38 rfl rfl ?_
            refine xi_iload_n (pc' := 40) (x := x3) kc_170_39 rfl rfl ?_
            refine xi_virtual (mj := 171) (as := [.int x2, .int x3]) (st1 := []) (lv0 := [(0, .ref 80), (1, .int x2), (2, .int x3)]) kc_170_40 rfl rfl rfl rfl rfl A3 (Nat.le_of_ble_eq_true rfl) (hJ _ _ _ _ (by decide)) (xm_le ml_171 rfl) rfl ?_
            refine xi_aload_n (pc' := 1) (x := 80) kc_171_0 rfl rfl ?_
            refine xi_getfield (pc' := 4) (v := .ref 81) kc_171_1 rfl rfl rfl A3 rfl ?_
            refine xi_iload_n (pc' := 5) (x := x2) kc_171_4 rfl rfl ?_
            refine xcps4 (xk_arr K.1 xD_81) (fun y9 A9 hy9 ry9 => ?_)
            refine xcps4 (xj_get hy9 ry9 (i := x2) (by omega) (by omega)) (fun v10 ev10 bv10 dv10 => ?_)
            refine xi_iaload (pc' := 6) (v := v10) kc_171_5 rfl A9 (by decide) rfl (xi_in (by omega) (by rw [hy9]; omega)) ev10 ?_
            refine xi_aload_n (pc' := 7) (x := 80) kc_171_6 rfl rfl ?_
            refine xi_getfield (pc' := 10) (v := .ref 81) kc_171_7 rfl rfl rfl A3 rfl ?_
            refine xi_iload_n (pc' := 11) (x := x3) kc_171_10 rfl rfl ?_
            refine xcps4 (xj_get hy9 ry9 (i := x3) (by omega) (by omega)) (fun v11 ev11 bv11 dv11 => ?_)
            refine xi_iaload (pc' := 12) (v := v11) kc_171_11 rfl A9 (by decide) rfl (xi_in (by omega) (by rw [hy9]; omega)) ev11 ?_
            refine xcps2 (α := Int32) (v10 - v11) (fun v12 ev12 => ?_)
            have zv12 : v12.toInt = (v10.toInt + (-1) * v11.toInt) := by rw [← ev12]; exact (xz_sub (X := v10.toInt) (Y := v11.toInt) rfl rfl (by omega) (by omega)).trans (by omega)
            refine xi_isub (pc' := 13) (v := v12) kc_171_12 rfl ev12 ?_
            refine xi_static (mj := 2) (as := [.int v12]) (st1 := []) (lv0 := [(0, .int v12)]) kc_171_13 rfl rfl (Nat.le_of_ble_eq_true rfl) rfl rfl (Nat.le_of_ble_eq_true rfl) (hJ _ _ _ _ (by decide)) (xm_le ml_2 rfl) rfl ?_
            refine mt_2_0 hJ hov1 hov2 (d := d) (x0 := v12) K.1 (by first | omega | decide) (fun r13 hh14 K15 => ?_)
            have br13 := xc_rng r13
            have K16 := xk_tr K K15 rfl
            have A17 := xk_eqa (q := 0) K15 rfl A4
            show xw J ov (d + 2) 171 (16, [(0, .ref 80), (1, .int x2), (2, .int x3)], [.int r13], hh14) _
            refine xi_istore_n (pc' := 17) (lv' := [(3, .int r13), (0, .ref 80), (1, .int x2), (2, .int x3)]) kc_171_16 rfl rfl (xm_lt ml_171 rfl) ?_
            refine xi_aload_n (pc' := 18) (x := 80) kc_171_17 rfl rfl ?_
            have A18 := xq_80 K16.1
            refine xi_getfield (pc' := 21) (v := .ref 82) kc_171_18 rfl rfl rfl A18 rfl ?_
            refine xi_iload_n (pc' := 22) (x := x2) kc_171_21 rfl rfl ?_
            refine xcps4 (xk_arr K16.1 xD_82) (fun y19 A19 hy19 ry19 => ?_)
            refine xcps4 (xj_get hy19 ry19 (i := x2) (by omega) (by omega)) (fun v20 ev20 bv20 dv20 => ?_)
            refine xi_iaload (pc' := 23) (v := v20) kc_171_22 rfl A19 (by decide) rfl (xi_in (by omega) (by rw [hy19]; omega)) ev20 ?_
            refine xi_aload_n (pc' := 24) (x := 80) kc_171_23 rfl rfl ?_
            refine xi_getfield (pc' := 27) (v := .ref 82) kc_171_24 rfl rfl rfl A18 rfl ?_
            refine xi_iload_n (pc' := 28) (x := x3) kc_171_27 rfl rfl ?_
            refine xcps4 (xj_get hy19 ry19 (i := x3) (by omega) (by omega)) (fun v21 ev21 bv21 dv21 => ?_)
            refine xi_iaload (pc' := 29) (v := v21) kc_171_28 rfl A19 (by decide) rfl (xi_in (by omega) (by rw [hy19]; omega)) ev21 ?_
            refine xcps2 (α := Int32) (v20 - v21) (fun v22 ev22 => ?_)
            have zv22 : v22.toInt = (v20.toInt + (-1) * v21.toInt) := by rw [← ev22]; exact (xz_sub (X := v20.toInt) (Y := v21.toInt) rfl rfl (by omega) (by omega)).trans (by omega)
            refine xi_isub (pc' := 30) (v := v22) kc_171_29 rfl ev22 ?_
            refine xi_static (mj := 2) (as := [.int v22]) (st1 := []) (lv0 := [(0, .int v22)]) kc_171_30 rfl rfl (Nat.le_of_ble_eq_true rfl) rfl rfl (Nat.le_of_ble_eq_true rfl) (hJ _ _ _ _ (by decide)) (xm_le ml_2 rfl) rfl ?_
            refine mt_2_0 hJ hov1 hov2 (d := d) (x0 := v22) K16.1 (by first | omega | decide) (fun r23 hh24 K25 => ?_)
            have br23 := xc_rng r23
            have K26 := xk_tr K16 K25 rfl
            have A27 := xk_eqa (q := 0) K25 rfl A17
            show xw J ov (d + 2) 171 (33, [(3, .int r13), (0, .ref 80), (1, .int x2), (2, .int x3)], [.int r23], hh24) _
            refine xi_istore (pc' := 35) (lv' := [(4, .int r23), (3, .int r13), (0, .ref 80), (1, .int x2), (2, .int x3)]) kc_171_33 rfl rfl (xm_lt ml_171 rfl) ?_
            refine xi_iload_n (pc' := 36) (x := r13) kc_171_35 rfl rfl ?_
            refine xi_iload (pc' := 38) (x := r23) kc_171_36 rfl rfl ?_
            refine xcps2 (α := Int32) ((r13 : Int32) + r23) (fun v28 ev28 => ?_)
            have rv28 := xc_rng v28
            refine xi_iadd (pc' := 39) (v := v28) kc_171_38 rfl ev28 ?_
            refine xi_iconst (pc' := 40) (v := 1) kc_171_39 rfl rfl ?_
            by_cases c29 : v28.toInt = 1
            · refine xi_cmf (pc' := 43) kc_171_40 rfl (xc_ne_f (X := v28.toInt) (Y := 1) rfl (by decide) (by omega)) ?_
              refine xi_iconst (pc' := 44) (v := 1) kc_171_43 rfl rfl ?_
              refine xi_goto (pc' := 48) kc_171_44 rfl ?_
              refine xi_ireturn kc_171_48 mr_171 rfl ?_
              show xw J ov (d + 3) 170 (43, [(0, .ref 80), (1, .int x1), (2, .int x2), (3, .int x3)], [.int 1], hh24) _
              refine xi_iff (pc' := 46) kc_170_43 rfl rfl ?_
              refine xcps2 (α := Int32) ((x1 : Int32) + 1) (fun v30 ev30 => ?_)
              have rv30 := xc_rng v30
              refine xi_iinc (pc' := 49) (x := x1) (v := v30) (lv' := [(1, .int v30), (0, .ref 80), (2, .int x2), (3, .int x3)]) kc_170_46 rfl rfl ev30 rfl (xm_lt ml_170 rfl) ?_
              refine xcps2 (α := Int32) (x3 + 1) (fun v31 ev31 => ?_)
              have zv31 : v31.toInt = (x3.toInt + 1) := by rw [← ev31]; exact (xz_add (X := x3.toInt) (Y := 1) rfl (by decide) (by omega) (by omega)).trans (by omega)
              refine xi_iinc (pc' := 52) (x := x3) (v := v31) (lv' := [(3, .int v31), (1, .int v30), (0, .ref 80), (2, .int x2)]) kc_170_49 rfl rfl ev31 rfl (xm_lt ml_170 rfl) ?_
              refine xi_goto (pc' := 12) kc_170_52 rfl ?_
              refine xw_lv (b := [(0, .ref 80), (1, .int v30), (2, .int x2), (3, .int v31)]) (lvS_cons (lvS_cons (lvS_cons (lvS_cons (lvS_nil (show ([3, 1, 0, 2] : List Nat).Nodup by decide)) rfl) rfl) rfl) rfl) ?_
              exact i1 v30 x2 v31 hh24 (by omega) (by omega) K26 (by omega)
            · refine xi_cmt (pc' := 47) kc_171_40 rfl (xc_ne_t (X := v28.toInt) (Y := 1) rfl (by decide) (by omega)) ?_
              refine xi_iconst (pc' := 48) (v := 0) kc_171_47 rfl rfl ?_
              refine xi_ireturn kc_171_48 mr_171 rfl ?_
              show xw J ov (d + 3) 170 (43, [(0, .ref 80), (1, .int x1), (2, .int x2), (3, .int x3)], [.int 0], hh24) _
              refine xi_ift (pc' := 49) kc_170_43 rfl rfl ?_
              refine xcps2 (α := Int32) (x3 + 1) (fun v32 ev32 => ?_)
              have zv32 : v32.toInt = (x3.toInt + 1) := by rw [← ev32]; exact (xz_add (X := x3.toInt) (Y := 1) rfl (by decide) (by omega) (by omega)).trans (by omega)
              refine xi_iinc (pc' := 52) (x := x3) (v := v32) (lv' := [(3, .int v32), (0, .ref 80), (1, .int x1), (2, .int x2)]) kc_170_49 rfl rfl ev32 rfl (xm_lt ml_170 rfl) ?_
              refine xi_goto (pc' := 12) kc_170_52 rfl ?_
              refine xw_lv (b := [(0, .ref 80), (1, .int x1), (2, .int x2), (3, .int v32)]) (lvS_cons (lvS_cons (lvS_cons (lvS_cons (lvS_nil (show ([3, 0, 1, 2] : List Nat).Nodup by decide)) rfl) rfl) rfl) rfl) ?_
              exact i1 x1 x2 v32 hh24 (by omega) (by omega) K26 (by omega)
          · refine xi_cmt (pc' := 49) kc_170_34 rfl (xc_ne_t (X := v7.toInt) (Y := 1) rfl (by decide) (by omega)) ?_
            refine xcps2 (α := Int32) (x3 + 1) (fun v33 ev33 => ?_)
            have zv33 : v33.toInt = (x3.toInt + 1) := by rw [← ev33]; exact (xz_add (X := x3.toInt) (Y := 1) rfl (by decide) (by omega) (by omega)).trans (by omega)
            refine xi_iinc (pc' := 52) (x := x3) (v := v33) (lv' := [(3, .int v33), (0, .ref 80), (1, .int x1), (2, .int x2)]) kc_170_49 rfl rfl ev33 rfl (xm_lt ml_170 rfl) ?_
            refine xi_goto (pc' := 12) kc_170_52 rfl ?_
            refine xw_lv (b := [(0, .ref 80), (1, .int x1), (2, .int x2), (3, .int v33)]) (lvS_cons (lvS_cons (lvS_cons (lvS_cons (lvS_nil (show ([3, 0, 1, 2] : List Nat).Nodup by decide)) rfl) rfl) rfl) rfl) ?_
            exact i1 x1 x2 v33 h (by omega) (by omega) K (by omega)
        · refine xi_cmt (pc' := 49) kc_170_24 rfl (xc_ne_t (X := v5.toInt) (Y := 1) rfl (by decide) (by omega)) ?_
          refine xcps2 (α := Int32) (x3 + 1) (fun v34 ev34 => ?_)
          have zv34 : v34.toInt = (x3.toInt + 1) := by rw [← ev34]; exact (xz_add (X := x3.toInt) (Y := 1) rfl (by decide) (by omega) (by omega)).trans (by omega)
          refine xi_iinc (pc' := 52) (x := x3) (v := v34) (lv' := [(3, .int v34), (0, .ref 80), (1, .int x1), (2, .int x2)]) kc_170_49 rfl rfl ev34 rfl (xm_lt ml_170 rfl) ?_
          refine xi_goto (pc' := 12) kc_170_52 rfl ?_
          refine xw_lv (b := [(0, .ref 80), (1, .int x1), (2, .int x2), (3, .int v34)]) (lvS_cons (lvS_cons (lvS_cons (lvS_cons (lvS_nil (show ([3, 0, 1, 2] : List Nat).Nodup by decide)) rfl) rfl) rfl) rfl) ?_
          exact i1 x1 x2 v34 h (by omega) (by omega) K (by omega)
set_option maxHeartbeats 4000000 in
theorem mt_170_0 {J : xe_J} {ov : List (List Int32)} (hJ : ∀ d mj as h, mj ≠ xe_loff → J d mj as h = none) (hov1 : ov[1]? = some [10, 0, 0, 0, 0, 0]) (hov2 : ov[2]? = some [99, 30, 50, 50, 1, 99999]) {d : Nat} {Q : Option Value → xe_H → Prop} {h : xe_H} (T : xt h) (kk : (∀ (r : Int32) (h' : xe_H), xk [(0, 9), (115, 1), (83, 0), (29, 0), (31, 0), (33, 0), (35, 0), (37, 0), (39, 0), (41, 0), (43, 0), (45, 0), (47, 0), (49, 0), (51, 0), (125, 0), (29, 2), (31, 2), (33, 2), (35, 2), (37, 2), (39, 2), (41, 2), (43, 2), (45, 2), (47, 2), (49, 2), (51, 2), (127, 0), (1, 5), (115, 23)] h h' → Q (some (.int r)) h')) : xw J ov (d + 3) 170 (0, [(0, .ref 80)], [], h) Q := by
  have K : xk [(0, 9), (115, 1), (83, 0), (29, 0), (31, 0), (33, 0), (35, 0), (37, 0), (39, 0), (41, 0), (43, 0), (45, 0), (47, 0), (49, 0), (51, 0), (125, 0), (29, 2), (31, 2), (33, 2), (35, 2), (37, 2), (39, 2), (41, 2), (43, 2), (45, 2), (47, 2), (49, 2), (51, 2), (127, 0), (1, 5), (115, 23)] h h := xk_re T
  refine xi_iconst (pc' := 1) (v := 0) kc_170_0 rfl rfl ?_
  refine xi_istore_n (pc' := 2) (lv' := [(1, .int 0), (0, .ref 80)]) kc_170_1 rfl rfl (xm_lt ml_170 rfl) ?_
  refine xi_iconst (pc' := 3) (v := 0) kc_170_2 rfl rfl ?_
  refine xi_istore_n (pc' := 4) (lv' := [(2, .int 0), (1, .int 0), (0, .ref 80)]) kc_170_3 rfl rfl (xm_lt ml_170 rfl) ?_
  have zc0 : (0 : Int32).toInt = 0 := by decide
  refine xw_lv (b := [(0, .ref 80), (1, .int 0), (2, .int 0)]) (lvS_cons (lvS_cons (lvS_cons (lvS_nil (show ([2, 1, 0] : List Nat).Nodup by decide)) rfl) rfl) rfl) ?_
  exact (lp_170_0 hJ hov1 hov2 (d := d) (hb := h) (fun r9 h9 K9 => kk r9 h9 (xk_tr K K9 rfl)) 625).1 0 0 h (by omega) (xk_re K.1) (by omega)
set_option maxHeartbeats 4000000 in
theorem mt_169_0 {J : xe_J} {ov : List (List Int32)} (hJ : ∀ d mj as h, mj ≠ xe_loff → J d mj as h = none) (hov1 : ov[1]? = some [10, 0, 0, 0, 0, 0]) (hov2 : ov[2]? = some [99, 30, 50, 50, 1, 99999]) {d : Nat} {Q : Option Value → xe_H → Prop} {h : xe_H} (T : xt h) (kk : (∀ (r : Int32) (h' : xe_H), xk [(0, 9), (115, 1), (83, 0), (29, 0), (31, 0), (33, 0), (35, 0), (37, 0), (39, 0), (41, 0), (43, 0), (45, 0), (47, 0), (49, 0), (51, 0), (125, 0), (29, 2), (31, 2), (33, 2), (35, 2), (37, 2), (39, 2), (41, 2), (43, 2), (45, 2), (47, 2), (49, 2), (51, 2), (127, 0), (1, 5), (115, 23)] h h' → Q (some (.int r)) h')) : xw J ov (d + 4) 169 (0, [(0, .ref 0)], [], h) Q := by
  have K : xk [(0, 9), (115, 1), (83, 0), (29, 0), (31, 0), (33, 0), (35, 0), (37, 0), (39, 0), (41, 0), (43, 0), (45, 0), (47, 0), (49, 0), (51, 0), (125, 0), (29, 2), (31, 2), (33, 2), (35, 2), (37, 2), (39, 2), (41, 2), (43, 2), (45, 2), (47, 2), (49, 2), (51, 2), (127, 0), (1, 5), (115, 23)] h h := xk_re T
  refine xi_aload_n (pc' := 1) (x := 0) kc_169_0 rfl rfl ?_
  refine xp_0 K.1 (fun u1 u2 bu1 bu2 A3 => ?_)
  refine xi_getfield (pc' := 4) (v := .ref 80) kc_169_1 rfl rfl rfl A3 rfl ?_
  have A4 := xq_80 K.1
  refine xi_virtual (mj := 170) (as := []) (st1 := []) (lv0 := [(0, .ref 80)]) kc_169_4 rfl rfl rfl rfl rfl A4 (Nat.le_of_ble_eq_true rfl) (hJ _ _ _ _ (by decide)) (xm_le ml_170 rfl) rfl ?_
  refine mt_170_0 hJ hov1 hov2 (d := d)  K.1 (fun r5 hh6 K7 => ?_)
  have br5 := xc_rng r5
  have K8 := xk_tr K K7 rfl
  refine xp_0 K8.1 (fun u9 u10 bu9 bu10 A11 => ?_)
  have e12 : u2 = u10 := xk_eqi (q := 9) K7 rfl A3 A11 rfl rfl
  subst e12
  show xw J ov (d + 4) 169 (7, [(0, .ref 0)], [.int r5], hh6) _
  refine xi_ireturn kc_169_7 mr_169 rfl ?_
  exact kk r5 hh6 K8
set_option maxHeartbeats 4000000 in
theorem lp_173_0 {J : xe_J} {ov : List (List Int32)} (hJ : ∀ d mj as h, mj ≠ xe_loff → J d mj as h = none) (hov1 : ov[1]? = some [10, 0, 0, 0, 0, 0]) (hov2 : ov[2]? = some [99, 30, 50, 50, 1, 99999]) {d : Nat} {Q : Option Value → xe_H → Prop} {hb : xe_H} (kk : (∀ (r : Int32) (h' : xe_H), xk [(0, 9), (115, 1), (83, 0), (29, 0), (31, 0), (33, 0), (35, 0), (37, 0), (39, 0), (41, 0), (43, 0), (45, 0), (47, 0), (49, 0), (51, 0), (125, 0), (29, 2), (31, 2), (33, 2), (35, 2), (37, 2), (39, 2), (41, 2), (43, 2), (45, 2), (47, 2), (49, 2), (51, 2), (127, 0), (1, 5), (115, 23)] hb h' → Q (some (.int r)) h')) : ∀ m : Nat, (∀ (x1 : Int32) (x2 : Int32) (h : xe_H), (0 ≤ x2.toInt ∧ x2.toInt ≤ 24) → xk [(0, 9), (115, 1), (83, 0), (29, 0), (31, 0), (33, 0), (35, 0), (37, 0), (39, 0), (41, 0), (43, 0), (45, 0), (47, 0), (49, 0), (51, 0), (125, 0), (29, 2), (31, 2), (33, 2), (35, 2), (37, 2), (39, 2), (41, 2), (43, 2), (45, 2), (47, 2), (49, 2), (51, 2), (127, 0), (1, 5), (115, 23)] hb h → (-1) * x2.toInt + 24 < (m : Int) → xw J ov (d + 1) 173 (4, [(0, .ref 80), (1, .int x1), (2, .int x2)], [], h) Q) := by
  intro m
  induction m with
  | zero =>
    intro x1 x2 h b2 K hm; have rx1 := xc_rng x1; exfalso; omega
  | succ m ih =>
    have i0 := ih
    intro x1 x2 h b2 K hm
    have rx1 := xc_rng x1
    refine xi_iload_n (pc' := 5) (x := x2) kc_173_4 rfl rfl ?_
    refine xi_bipush (pc' := 7) (v := 24) kc_173_5 rfl rfl ?_
    by_cases c1 : 24 ≤ x2.toInt
    · refine xi_cmt (pc' := 34) kc_173_7 rfl (xc_ge_t (X := x2.toInt) (Y := 24) rfl (by decide) (by omega)) ?_
      refine xi_iload_n (pc' := 35) (x := x1) kc_173_34 rfl rfl ?_
      refine xi_ireturn kc_173_35 mr_173 rfl ?_
      exact kk x1 h K
    · refine xi_cmf (pc' := 10) kc_173_7 rfl (xc_ge_f (X := x2.toInt) (Y := 24) rfl (by decide) (by omega)) ?_
      refine xi_iload_n (pc' := 11) (x := x1) kc_173_10 rfl rfl ?_
      refine xi_aload_n (pc' := 12) (x := 80) kc_173_11 rfl rfl ?_
      have A2 := xq_80 K.1
      refine xi_getfield (pc' := 15) (v := .ref 83) kc_173_12 rfl rfl rfl A2 rfl ?_
      refine xi_iload_n (pc' := 16) (x := x2) kc_173_15 rfl rfl ?_
      refine xcps4 (xk_arr K.1 xD_83) (fun y3 A3 hy3 ry3 => ?_)
      refine xcps4 (xj_get hy3 ry3 (i := x2) (by omega) (by omega)) (fun v4 ev4 bv4 dv4 => ?_)
      refine xi_iaload (pc' := 17) (v := v4) kc_173_16 rfl A3 (by decide) rfl (xi_in (by omega) (by rw [hy3]; omega)) ev4 ?_
      refine xi_iconst (pc' := 18) (v := 2) kc_173_17 rfl rfl ?_
      by_cases c5 : v4.toInt = 2
      · refine xi_cmf (pc' := 21) kc_173_18 rfl (xc_ne_f (X := v4.toInt) (Y := 2) rfl (by decide) (by omega)) ?_
        refine xi_iconst (pc' := 22) (v := 0) kc_173_21 rfl rfl ?_
        refine xi_goto (pc' := 26) kc_173_22 rfl ?_
        refine xcps2 (α := Int32) (x1 + 0) (fun v6 ev6 => ?_)
        have zv6 : v6.toInt = x1.toInt := by rw [← ev6]; exact (xz_add (X := x1.toInt) (Y := 0) rfl (by decide) (by omega) (by omega)).trans (by omega)
        refine xi_iadd (pc' := 27) (v := v6) kc_173_26 rfl ev6 ?_
        refine xi_istore_n (pc' := 28) (lv' := [(1, .int v6), (0, .ref 80), (2, .int x2)]) kc_173_27 rfl rfl (xm_lt ml_173 rfl) ?_
        refine xcps2 (α := Int32) (x2 + 1) (fun v7 ev7 => ?_)
        have zv7 : v7.toInt = (x2.toInt + 1) := by rw [← ev7]; exact (xz_add (X := x2.toInt) (Y := 1) rfl (by decide) (by omega) (by omega)).trans (by omega)
        refine xi_iinc (pc' := 31) (x := x2) (v := v7) (lv' := [(2, .int v7), (1, .int v6), (0, .ref 80)]) kc_173_28 rfl rfl ev7 rfl (xm_lt ml_173 rfl) ?_
        refine xi_goto (pc' := 4) kc_173_31 rfl ?_
        refine xw_lv (b := [(0, .ref 80), (1, .int v6), (2, .int v7)]) (lvS_cons (lvS_cons (lvS_cons (lvS_nil (show ([2, 1, 0] : List Nat).Nodup by decide)) rfl) rfl) rfl) ?_
        exact i0 v6 v7 h (by omega) K (by omega)
      · refine xi_cmt (pc' := 25) kc_173_18 rfl (xc_ne_t (X := v4.toInt) (Y := 2) rfl (by decide) (by omega)) ?_
        refine xi_iconst (pc' := 26) (v := 1) kc_173_25 rfl rfl ?_
        refine xcps2 (α := Int32) ((x1 : Int32) + 1) (fun v8 ev8 => ?_)
        have rv8 := xc_rng v8
        refine xi_iadd (pc' := 27) (v := v8) kc_173_26 rfl ev8 ?_
        refine xi_istore_n (pc' := 28) (lv' := [(1, .int v8), (0, .ref 80), (2, .int x2)]) kc_173_27 rfl rfl (xm_lt ml_173 rfl) ?_
        refine xcps2 (α := Int32) (x2 + 1) (fun v9 ev9 => ?_)
        have zv9 : v9.toInt = (x2.toInt + 1) := by rw [← ev9]; exact (xz_add (X := x2.toInt) (Y := 1) rfl (by decide) (by omega) (by omega)).trans (by omega)
        refine xi_iinc (pc' := 31) (x := x2) (v := v9) (lv' := [(2, .int v9), (1, .int v8), (0, .ref 80)]) kc_173_28 rfl rfl ev9 rfl (xm_lt ml_173 rfl) ?_
        refine xi_goto (pc' := 4) kc_173_31 rfl ?_
        refine xw_lv (b := [(0, .ref 80), (1, .int v8), (2, .int v9)]) (lvS_cons (lvS_cons (lvS_cons (lvS_nil (show ([2, 1, 0] : List Nat).Nodup by decide)) rfl) rfl) rfl) ?_
        exact i0 v8 v9 h (by omega) K (by omega)
set_option maxHeartbeats 4000000 in
theorem mt_173_0 {J : xe_J} {ov : List (List Int32)} (hJ : ∀ d mj as h, mj ≠ xe_loff → J d mj as h = none) (hov1 : ov[1]? = some [10, 0, 0, 0, 0, 0]) (hov2 : ov[2]? = some [99, 30, 50, 50, 1, 99999]) {d : Nat} {Q : Option Value → xe_H → Prop} {h : xe_H} (T : xt h) (kk : (∀ (r : Int32) (h' : xe_H), xk [(0, 9), (115, 1), (83, 0), (29, 0), (31, 0), (33, 0), (35, 0), (37, 0), (39, 0), (41, 0), (43, 0), (45, 0), (47, 0), (49, 0), (51, 0), (125, 0), (29, 2), (31, 2), (33, 2), (35, 2), (37, 2), (39, 2), (41, 2), (43, 2), (45, 2), (47, 2), (49, 2), (51, 2), (127, 0), (1, 5), (115, 23)] h h' → Q (some (.int r)) h')) : xw J ov (d + 1) 173 (0, [(0, .ref 80)], [], h) Q := by
  have K : xk [(0, 9), (115, 1), (83, 0), (29, 0), (31, 0), (33, 0), (35, 0), (37, 0), (39, 0), (41, 0), (43, 0), (45, 0), (47, 0), (49, 0), (51, 0), (125, 0), (29, 2), (31, 2), (33, 2), (35, 2), (37, 2), (39, 2), (41, 2), (43, 2), (45, 2), (47, 2), (49, 2), (51, 2), (127, 0), (1, 5), (115, 23)] h h := xk_re T
  refine xi_iconst (pc' := 1) (v := 0) kc_173_0 rfl rfl ?_
  refine xi_istore_n (pc' := 2) (lv' := [(1, .int 0), (0, .ref 80)]) kc_173_1 rfl rfl (xm_lt ml_173 rfl) ?_
  refine xi_iconst (pc' := 3) (v := 0) kc_173_2 rfl rfl ?_
  refine xi_istore_n (pc' := 4) (lv' := [(2, .int 0), (1, .int 0), (0, .ref 80)]) kc_173_3 rfl rfl (xm_lt ml_173 rfl) ?_
  have zc0 : (0 : Int32).toInt = 0 := by decide
  refine xw_lv (b := [(0, .ref 80), (1, .int 0), (2, .int 0)]) (lvS_cons (lvS_cons (lvS_cons (lvS_nil (show ([2, 1, 0] : List Nat).Nodup by decide)) rfl) rfl) rfl) ?_
  exact (lp_173_0 hJ hov1 hov2 (d := d) (hb := h) (fun r9 h9 K9 => kk r9 h9 (xk_tr K K9 rfl)) 25) 0 0 h (by omega) (xk_re K.1) (by omega)
set_option maxHeartbeats 4000000 in
theorem lp_175_0 {J : xe_J} {ov : List (List Int32)} (hJ : ∀ d mj as h, mj ≠ xe_loff → J d mj as h = none) (hov1 : ov[1]? = some [10, 0, 0, 0, 0, 0]) (hov2 : ov[2]? = some [99, 30, 50, 50, 1, 99999]) {d : Nat} {Q : Option Value → xe_H → Prop} {hb : xe_H} (kk : (∀ (r : Int32) (h' : xe_H), xk [(0, 9), (115, 1), (83, 0), (29, 0), (31, 0), (33, 0), (35, 0), (37, 0), (39, 0), (41, 0), (43, 0), (45, 0), (47, 0), (49, 0), (51, 0), (125, 0), (29, 2), (31, 2), (33, 2), (35, 2), (37, 2), (39, 2), (41, 2), (43, 2), (45, 2), (47, 2), (49, 2), (51, 2), (127, 0), (1, 5), (115, 23)] hb h' → Q (some (.int r)) h')) : ∀ m : Nat, (∀ (x1 : Int32) (x2 : Int32) (x3 : Int32) (x4 : Int32) (h : xe_H), (0 ≤ x1.toInt ∧ x1.toInt ≤ 23) → (0 ≤ x4.toInt ∧ x4.toInt ≤ 23) → xk [(0, 9), (115, 1), (83, 0), (29, 0), (31, 0), (33, 0), (35, 0), (37, 0), (39, 0), (41, 0), (43, 0), (45, 0), (47, 0), (49, 0), (51, 0), (125, 0), (29, 2), (31, 2), (33, 2), (35, 2), (37, 2), (39, 2), (41, 2), (43, 2), (45, 2), (47, 2), (49, 2), (51, 2), (127, 0), (1, 5), (115, 23)] hb h → (-1) * x4.toInt + 23 < (m : Int) → xw J ov (d + 3) 175 (7, [(0, .ref 80), (1, .int x1), (2, .int x2), (3, .int x3), (4, .int x4)], [], h) Q) := by
  intro m
  induction m with
  | zero =>
    intro x1 x2 x3 x4 h b1 b4 K hm; have rx2 := xc_rng x2; have rx3 := xc_rng x3; exfalso; omega
  | succ m ih =>
    have i0 := ih
    intro x1 x2 x3 x4 h b1 b4 K hm
    have rx2 := xc_rng x2
    have rx3 := xc_rng x3
    refine xi_iload (pc' := 9) (x := x4) kc_175_7 rfl rfl ?_
    refine xi_iload_n (pc' := 10) (x := x1) kc_175_9 rfl rfl ?_
    by_cases c1 : x1.toInt ≤ x4.toInt
    · refine xi_cmt (pc' := 56) kc_175_10 rfl (xc_ge_t (X := x4.toInt) (Y := x1.toInt) rfl rfl (by omega)) ?_
      refine xi_iload_n (pc' := 57) (x := x2) kc_175_56 rfl rfl ?_
      refine xi_ireturn kc_175_57 mr_175 rfl ?_
      exact kk x2 h K
    · refine xi_cmf (pc' := 13) kc_175_10 rfl (xc_ge_f (X := x4.toInt) (Y := x1.toInt) rfl rfl (by omega)) ?_
      refine xi_iload (pc' := 15) (x := x4) kc_175_13 rfl rfl ?_
      refine xi_bipush (pc' := 17) (v := 24) kc_175_15 rfl rfl ?_
      refine xi_cmf (pc' := 20) kc_175_17 rfl (xc_ge_f (X := x4.toInt) (Y := 24) rfl (by decide) (by omega)) ?_
      refine xi_aload_n (pc' := 21) (x := 80) kc_175_20 rfl rfl ?_
      have A2 := xq_80 K.1
      refine xi_getfield (pc' := 24) (v := .ref 83) kc_175_21 rfl rfl rfl A2 rfl ?_
      refine xi_iload (pc' := 26) (x := x4) kc_175_24 rfl rfl ?_
      refine xcps4 (xk_arr K.1 xD_83) (fun y3 A3 hy3 ry3 => ?_)
      refine xcps4 (xj_get hy3 ry3 (i := x4) (by omega) (by omega)) (fun v4 ev4 bv4 dv4 => ?_)
      refine xi_iaload (pc' := 27) (v := v4) kc_175_26 rfl A3 (by decide) rfl (xi_in (by omega) (by rw [hy3]; omega)) ev4 ?_
      refine xi_iconst (pc' := 28) (v := 2) kc_175_27 rfl rfl ?_
      by_cases c5 : v4.toInt = 2
      · refine xi_cmt (pc' := 50) kc_175_28 rfl (xc_eq_t (X := v4.toInt) (Y := 2) rfl (by decide) (by omega)) ?_
        refine xcps2 (α := Int32) (x4 + 1) (fun v6 ev6 => ?_)
        have zv6 : v6.toInt = (x4.toInt + 1) := by rw [← ev6]; exact (xz_add (X := x4.toInt) (Y := 1) rfl (by decide) (by omega) (by omega)).trans (by omega)
        refine xi_iinc (pc' := 53) (x := x4) (v := v6) (lv' := [(4, .int v6), (0, .ref 80), (1, .int x1), (2, .int x2), (3, .int x3)]) kc_175_50 rfl rfl ev6 rfl (xm_lt ml_175 rfl) ?_
        refine xi_goto (pc' := 7) kc_175_53 rfl ?_
        refine xw_lv (b := [(0, .ref 80), (1, .int x1), (2, .int x2), (3, .int x3), (4, .int v6)]) (lvS_cons (lvS_cons (lvS_cons (lvS_cons (lvS_cons (lvS_nil (show ([4, 0, 1, 2, 3] : List Nat).Nodup by decide)) rfl) rfl) rfl) rfl) rfl) ?_
        exact i0 x1 x2 x3 v6 h (by omega) (by omega) K (by omega)
      · refine xi_cmf (pc' := 31) kc_175_28 rfl (xc_eq_f (X := v4.toInt) (Y := 2) rfl (by decide) (by omega)) ?_
        refine xi_aload_n (pc' := 32) (x := 80) kc_175_31 rfl rfl ?_
        refine xi_iload (pc' := 34) (x := x4) kc_175_32 rfl rfl ?_
        refine xi_iload_n (pc' := 35) (x := x1) kc_175_34 rfl rfl ?_
        refine xi_virtual (mj := 171) (as := [.int x4, .int x1]) (st1 := []) (lv0 := [(0, .ref 80), (1, .int x4), (2, .int x1)]) kc_175_35 rfl rfl rfl rfl rfl A2 (Nat.le_of_ble_eq_true rfl) (hJ _ _ _ _ (by decide)) (xm_le ml_171 rfl) rfl ?_
        refine xi_aload_n (pc' := 1) (x := 80) kc_171_0 rfl rfl ?_
        refine xi_getfield (pc' := 4) (v := .ref 81) kc_171_1 rfl rfl rfl A2 rfl ?_
        refine xi_iload_n (pc' := 5) (x := x4) kc_171_4 rfl rfl ?_
        refine xcps4 (xk_arr K.1 xD_81) (fun y7 A7 hy7 ry7 => ?_)
        refine xcps4 (xj_get hy7 ry7 (i := x4) (by omega) (by omega)) (fun v8 ev8 bv8 dv8 => ?_)
        refine xi_iaload (pc' := 6) (v := v8) kc_171_5 rfl A7 (by decide) rfl (xi_in (by omega) (by rw [hy7]; omega)) ev8 ?_
        refine xi_aload_n (pc' := 7) (x := 80) kc_171_6 rfl rfl ?_
        refine xi_getfield (pc' := 10) (v := .ref 81) kc_171_7 rfl rfl rfl A2 rfl ?_
        refine xi_iload_n (pc' := 11) (x := x1) kc_171_10 rfl rfl ?_
        refine xcps4 (xj_get hy7 ry7 (i := x1) (by omega) (by omega)) (fun v9 ev9 bv9 dv9 => ?_)
        refine xi_iaload (pc' := 12) (v := v9) kc_171_11 rfl A7 (by decide) rfl (xi_in (by omega) (by rw [hy7]; omega)) ev9 ?_
        refine xcps2 (α := Int32) (v8 - v9) (fun v10 ev10 => ?_)
        have zv10 : v10.toInt = (v8.toInt + (-1) * v9.toInt) := by rw [← ev10]; exact (xz_sub (X := v8.toInt) (Y := v9.toInt) rfl rfl (by omega) (by omega)).trans (by omega)
        refine xi_isub (pc' := 13) (v := v10) kc_171_12 rfl ev10 ?_
        refine xi_static (mj := 2) (as := [.int v10]) (st1 := []) (lv0 := [(0, .int v10)]) kc_171_13 rfl rfl (Nat.le_of_ble_eq_true rfl) rfl rfl (Nat.le_of_ble_eq_true rfl) (hJ _ _ _ _ (by decide)) (xm_le ml_2 rfl) rfl ?_
        refine mt_2_0 hJ hov1 hov2 (d := d) (x0 := v10) K.1 (by first | omega | decide) (fun r11 hh12 K13 => ?_)
        have br11 := xc_rng r11
        have K14 := xk_tr K K13 rfl
        have A15 := xk_eqa (q := 0) K13 rfl A3
        show xw J ov (d + 2) 171 (16, [(0, .ref 80), (1, .int x4), (2, .int x1)], [.int r11], hh12) _
        refine xi_istore_n (pc' := 17) (lv' := [(3, .int r11), (0, .ref 80), (1, .int x4), (2, .int x1)]) kc_171_16 rfl rfl (xm_lt ml_171 rfl) ?_
        refine xi_aload_n (pc' := 18) (x := 80) kc_171_17 rfl rfl ?_
        have A16 := xq_80 K14.1
        refine xi_getfield (pc' := 21) (v := .ref 82) kc_171_18 rfl rfl rfl A16 rfl ?_
        refine xi_iload_n (pc' := 22) (x := x4) kc_171_21 rfl rfl ?_
        refine xcps4 (xk_arr K14.1 xD_82) (fun y17 A17 hy17 ry17 => ?_)
        refine xcps4 (xj_get hy17 ry17 (i := x4) (by omega) (by omega)) (fun v18 ev18 bv18 dv18 => ?_)
        refine xi_iaload (pc' := 23) (v := v18) kc_171_22 rfl A17 (by decide) rfl (xi_in (by omega) (by rw [hy17]; omega)) ev18 ?_
        refine xi_aload_n (pc' := 24) (x := 80) kc_171_23 rfl rfl ?_
        refine xi_getfield (pc' := 27) (v := .ref 82) kc_171_24 rfl rfl rfl A16 rfl ?_
        refine xi_iload_n (pc' := 28) (x := x1) kc_171_27 rfl rfl ?_
        refine xcps4 (xj_get hy17 ry17 (i := x1) (by omega) (by omega)) (fun v19 ev19 bv19 dv19 => ?_)
        refine xi_iaload (pc' := 29) (v := v19) kc_171_28 rfl A17 (by decide) rfl (xi_in (by omega) (by rw [hy17]; omega)) ev19 ?_
        refine xcps2 (α := Int32) (v18 - v19) (fun v20 ev20 => ?_)
        have zv20 : v20.toInt = (v18.toInt + (-1) * v19.toInt) := by rw [← ev20]; exact (xz_sub (X := v18.toInt) (Y := v19.toInt) rfl rfl (by omega) (by omega)).trans (by omega)
        refine xi_isub (pc' := 30) (v := v20) kc_171_29 rfl ev20 ?_
        refine xi_static (mj := 2) (as := [.int v20]) (st1 := []) (lv0 := [(0, .int v20)]) kc_171_30 rfl rfl (Nat.le_of_ble_eq_true rfl) rfl rfl (Nat.le_of_ble_eq_true rfl) (hJ _ _ _ _ (by decide)) (xm_le ml_2 rfl) rfl ?_
        refine mt_2_0 hJ hov1 hov2 (d := d) (x0 := v20) K14.1 (by first | omega | decide) (fun r21 hh22 K23 => ?_)
        have br21 := xc_rng r21
        have K24 := xk_tr K14 K23 rfl
        have A25 := xk_eqa (q := 0) K23 rfl A15
        show xw J ov (d + 2) 171 (33, [(3, .int r11), (0, .ref 80), (1, .int x4), (2, .int x1)], [.int r21], hh22) _
        refine xi_istore (pc' := 35) (lv' := [(4, .int r21), (3, .int r11), (0, .ref 80), (1, .int x4), (2, .int x1)]) kc_171_33 rfl rfl (xm_lt ml_171 rfl) ?_
        refine xi_iload_n (pc' := 36) (x := r11) kc_171_35 rfl rfl ?_
        refine xi_iload (pc' := 38) (x := r21) kc_171_36 rfl rfl ?_
        refine xcps2 (α := Int32) ((r11 : Int32) + r21) (fun v26 ev26 => ?_)
        have rv26 := xc_rng v26
        refine xi_iadd (pc' := 39) (v := v26) kc_171_38 rfl ev26 ?_
        refine xi_iconst (pc' := 40) (v := 1) kc_171_39 rfl rfl ?_
        by_cases c27 : v26.toInt = 1
        · refine xi_cmf (pc' := 43) kc_171_40 rfl (xc_ne_f (X := v26.toInt) (Y := 1) rfl (by decide) (by omega)) ?_
          refine xi_iconst (pc' := 44) (v := 1) kc_171_43 rfl rfl ?_
          refine xi_goto (pc' := 48) kc_171_44 rfl ?_
          refine xi_ireturn kc_171_48 mr_171 rfl ?_
          show xw J ov (d + 3) 175 (38, [(0, .ref 80), (1, .int x1), (2, .int x2), (3, .int x3), (4, .int x4)], [.int 1], hh22) _
          refine xi_iff (pc' := 41) kc_175_38 rfl rfl ?_
          refine xi_iload_n (pc' := 42) (x := x2) kc_175_41 rfl rfl ?_
          refine xi_iconst (pc' := 43) (v := 1) kc_175_42 rfl rfl ?_
          refine xi_iload_n (pc' := 44) (x := x3) kc_175_43 rfl rfl ?_
          refine xcps2 (α := Int32) ((1 : Int32) <<< (x3 &&& 31)) (fun v28 ev28 => ?_)
          have rv28 := xc_rng v28
          refine xi_ishl (pc' := 45) (v := v28) kc_175_44 rfl ev28 ?_
          refine xcps2 (α := Int32) ((x2 : Int32) ||| v28) (fun v29 ev29 => ?_)
          have rv29 := xc_rng v29
          refine xi_ior (pc' := 46) (v := v29) kc_175_45 rfl ev29 ?_
          refine xi_istore_n (pc' := 47) (lv' := [(2, .int v29), (0, .ref 80), (1, .int x1), (3, .int x3), (4, .int x4)]) kc_175_46 rfl rfl (xm_lt ml_175 rfl) ?_
          refine xcps2 (α := Int32) ((x3 : Int32) + 1) (fun v30 ev30 => ?_)
          have rv30 := xc_rng v30
          refine xi_iinc (pc' := 50) (x := x3) (v := v30) (lv' := [(3, .int v30), (2, .int v29), (0, .ref 80), (1, .int x1), (4, .int x4)]) kc_175_47 rfl rfl ev30 rfl (xm_lt ml_175 rfl) ?_
          refine xcps2 (α := Int32) (x4 + 1) (fun v31 ev31 => ?_)
          have zv31 : v31.toInt = (x4.toInt + 1) := by rw [← ev31]; exact (xz_add (X := x4.toInt) (Y := 1) rfl (by decide) (by omega) (by omega)).trans (by omega)
          refine xi_iinc (pc' := 53) (x := x4) (v := v31) (lv' := [(4, .int v31), (3, .int v30), (2, .int v29), (0, .ref 80), (1, .int x1)]) kc_175_50 rfl rfl ev31 rfl (xm_lt ml_175 rfl) ?_
          refine xi_goto (pc' := 7) kc_175_53 rfl ?_
          refine xw_lv (b := [(0, .ref 80), (1, .int x1), (2, .int v29), (3, .int v30), (4, .int v31)]) (lvS_cons (lvS_cons (lvS_cons (lvS_cons (lvS_cons (lvS_nil (show ([4, 3, 2, 0, 1] : List Nat).Nodup by decide)) rfl) rfl) rfl) rfl) rfl) ?_
          exact i0 x1 v29 v30 v31 hh22 (by omega) (by omega) K24 (by omega)
        · refine xi_cmt (pc' := 47) kc_171_40 rfl (xc_ne_t (X := v26.toInt) (Y := 1) rfl (by decide) (by omega)) ?_
          refine xi_iconst (pc' := 48) (v := 0) kc_171_47 rfl rfl ?_
          refine xi_ireturn kc_171_48 mr_171 rfl ?_
          show xw J ov (d + 3) 175 (38, [(0, .ref 80), (1, .int x1), (2, .int x2), (3, .int x3), (4, .int x4)], [.int 0], hh22) _
          refine xi_ift (pc' := 47) kc_175_38 rfl rfl ?_
          refine xcps2 (α := Int32) ((x3 : Int32) + 1) (fun v32 ev32 => ?_)
          have rv32 := xc_rng v32
          refine xi_iinc (pc' := 50) (x := x3) (v := v32) (lv' := [(3, .int v32), (0, .ref 80), (1, .int x1), (2, .int x2), (4, .int x4)]) kc_175_47 rfl rfl ev32 rfl (xm_lt ml_175 rfl) ?_
          refine xcps2 (α := Int32) (x4 + 1) (fun v33 ev33 => ?_)
          have zv33 : v33.toInt = (x4.toInt + 1) := by rw [← ev33]; exact (xz_add (X := x4.toInt) (Y := 1) rfl (by decide) (by omega) (by omega)).trans (by omega)
          refine xi_iinc (pc' := 53) (x := x4) (v := v33) (lv' := [(4, .int v33), (3, .int v32), (0, .ref 80), (1, .int x1), (2, .int x2)]) kc_175_50 rfl rfl ev33 rfl (xm_lt ml_175 rfl) ?_
          refine xi_goto (pc' := 7) kc_175_53 rfl ?_
          refine xw_lv (b := [(0, .ref 80), (1, .int x1), (2, .int x2), (3, .int v32), (4, .int v33)]) (lvS_cons (lvS_cons (lvS_cons (lvS_cons (lvS_cons (lvS_nil (show ([4, 3, 0, 1, 2] : List Nat).Nodup by decide)) rfl) rfl) rfl) rfl) rfl) ?_
          exact i0 x1 x2 v32 v33 hh22 (by omega) (by omega) K24 (by omega)
set_option maxHeartbeats 4000000 in
theorem mt_175_0 {J : xe_J} {ov : List (List Int32)} (hJ : ∀ d mj as h, mj ≠ xe_loff → J d mj as h = none) (hov1 : ov[1]? = some [10, 0, 0, 0, 0, 0]) (hov2 : ov[2]? = some [99, 30, 50, 50, 1, 99999]) {d : Nat} {Q : Option Value → xe_H → Prop} {h : xe_H} {x1 : Int32} (T : xt h) (b1 : (0 ≤ x1.toInt ∧ x1.toInt ≤ 23)) (kk : (∀ (r : Int32) (h' : xe_H), xk [(0, 9), (115, 1), (83, 0), (29, 0), (31, 0), (33, 0), (35, 0), (37, 0), (39, 0), (41, 0), (43, 0), (45, 0), (47, 0), (49, 0), (51, 0), (125, 0), (29, 2), (31, 2), (33, 2), (35, 2), (37, 2), (39, 2), (41, 2), (43, 2), (45, 2), (47, 2), (49, 2), (51, 2), (127, 0), (1, 5), (115, 23)] h h' → Q (some (.int r)) h')) : xw J ov (d + 3) 175 (0, [(0, .ref 80), (1, .int x1)], [], h) Q := by
  have K : xk [(0, 9), (115, 1), (83, 0), (29, 0), (31, 0), (33, 0), (35, 0), (37, 0), (39, 0), (41, 0), (43, 0), (45, 0), (47, 0), (49, 0), (51, 0), (125, 0), (29, 2), (31, 2), (33, 2), (35, 2), (37, 2), (39, 2), (41, 2), (43, 2), (45, 2), (47, 2), (49, 2), (51, 2), (127, 0), (1, 5), (115, 23)] h h := xk_re T
  refine xi_iconst (pc' := 1) (v := 0) kc_175_0 rfl rfl ?_
  refine xi_istore_n (pc' := 2) (lv' := [(2, .int 0), (0, .ref 80), (1, .int x1)]) kc_175_1 rfl rfl (xm_lt ml_175 rfl) ?_
  refine xi_iconst (pc' := 3) (v := 0) kc_175_2 rfl rfl ?_
  refine xi_istore_n (pc' := 4) (lv' := [(3, .int 0), (2, .int 0), (0, .ref 80), (1, .int x1)]) kc_175_3 rfl rfl (xm_lt ml_175 rfl) ?_
  refine xi_iconst (pc' := 5) (v := 0) kc_175_4 rfl rfl ?_
  refine xi_istore (pc' := 7) (lv' := [(4, .int 0), (3, .int 0), (2, .int 0), (0, .ref 80), (1, .int x1)]) kc_175_5 rfl rfl (xm_lt ml_175 rfl) ?_
  have zc0 : (0 : Int32).toInt = 0 := by decide
  refine xw_lv (b := [(0, .ref 80), (1, .int x1), (2, .int 0), (3, .int 0), (4, .int 0)]) (lvS_cons (lvS_cons (lvS_cons (lvS_cons (lvS_cons (lvS_nil (show ([4, 3, 2, 0, 1] : List Nat).Nodup by decide)) rfl) rfl) rfl) rfl) rfl) ?_
  exact (lp_175_0 hJ hov1 hov2 (d := d) (hb := h) (fun r9 h9 K9 => kk r9 h9 (xk_tr K K9 rfl)) 24) x1 0 0 0 h (by omega) (by omega) (xk_re K.1) (by omega)
set_option maxHeartbeats 4000000 in
theorem lp_176_0 {J : xe_J} {ov : List (List Int32)} (hJ : ∀ d mj as h, mj ≠ xe_loff → J d mj as h = none) (hov1 : ov[1]? = some [10, 0, 0, 0, 0, 0]) (hov2 : ov[2]? = some [99, 30, 50, 50, 1, 99999]) {d : Nat} {t : Nat} (hrec : (∀ {Q : Option Value → xe_H → Prop} {h : xe_H} {x1 : Int32} {x2 : Int32} {x3 : Int32} {x4 : Int32} {x5 : Int32}, xt h → (0 ≤ x1.toInt ∧ x1.toInt ≤ 16) → (0 ≤ x2.toInt ∧ x2.toInt ≤ 16) → (0 ≤ x3.toInt ∧ x3.toInt ≤ 16) → x3.toInt ≤ ((t : Nat) : Int) → (∀ (r : Int32) (h' : xe_H), xk [(0, 9), (115, 1), (83, 0), (29, 0), (31, 0), (33, 0), (35, 0), (37, 0), (39, 0), (41, 0), (43, 0), (45, 0), (47, 0), (49, 0), (51, 0), (125, 0), (29, 2), (31, 2), (33, 2), (35, 2), (37, 2), (39, 2), (41, 2), (43, 2), (45, 2), (47, 2), (49, 2), (51, 2), (127, 0), (1, 5), (115, 23)] h h' → Q (some (.int r)) h') → xw J ov (d + t + 2) 176 (0, [(0, .ref 80), (1, .int x1), (2, .int x2), (3, .int x3), (4, .int x4), (5, .int x5)], [], h) Q)) {Q : Option Value → xe_H → Prop} {hb : xe_H} (kk : (∀ (r : Int32) (h' : xe_H), xk [(0, 9), (115, 1), (83, 0), (29, 0), (31, 0), (33, 0), (35, 0), (37, 0), (39, 0), (41, 0), (43, 0), (45, 0), (47, 0), (49, 0), (51, 0), (125, 0), (29, 2), (31, 2), (33, 2), (35, 2), (37, 2), (39, 2), (41, 2), (43, 2), (45, 2), (47, 2), (49, 2), (51, 2), (127, 0), (1, 5), (115, 23)] hb h' → Q (some (.int r)) h')) : ∀ m : Nat, (∀ (x2 : Int32) (x3 : Int32) (x4 : Int32) (x5 : Int32) (x6 : Int32) (x7 : Int32) (h : xe_H), (0 ≤ x2.toInt ∧ x2.toInt ≤ 16) → (1 ≤ x3.toInt ∧ x3.toInt ≤ 16) → (0 ≤ x7.toInt ∧ x7.toInt ≤ 16) → (x3.toInt ≤ (t : Int) + 1) → xk [(0, 9), (115, 1), (83, 0), (29, 0), (31, 0), (33, 0), (35, 0), (37, 0), (39, 0), (41, 0), (43, 0), (45, 0), (47, 0), (49, 0), (51, 0), (125, 0), (29, 2), (31, 2), (33, 2), (35, 2), (37, 2), (39, 2), (41, 2), (43, 2), (45, 2), (47, 2), (49, 2), (51, 2), (127, 0), (1, 5), (115, 23)] hb h → (-1) * x7.toInt + 16 < (m : Int) → xw J ov (d + t + 3) 176 (21, [(0, .ref 80), (2, .int x2), (3, .int x3), (4, .int x4), (5, .int x5), (6, .int x6), (7, .int x7)], [], h) Q) := by
  intro m
  induction m with
  | zero =>
    intro x2 x3 x4 x5 x6 x7 h b2 b3 b7 hT K hm; have rx4 := xc_rng x4; have rx5 := xc_rng x5; have rx6 := xc_rng x6; exfalso; omega
  | succ m ih =>
    have i0 := ih
    intro x2 x3 x4 x5 x6 x7 h b2 b3 b7 hT K hm
    have rx4 := xc_rng x4
    have rx5 := xc_rng x5
    have rx6 := xc_rng x6
    refine xi_iload (pc' := 23) (x := x7) kc_176_21 rfl rfl ?_
    refine xi_iload_n (pc' := 24) (x := x2) kc_176_23 rfl rfl ?_
    refine xi_iload_n (pc' := 25) (x := x3) kc_176_24 rfl rfl ?_
    refine xcps2 (α := Int32) (x2 - x3) (fun v1 ev1 => ?_)
    have zv1 : v1.toInt = (x2.toInt + (-1) * x3.toInt) := by rw [← ev1]; exact (xz_sub (X := x2.toInt) (Y := x3.toInt) rfl rfl (by omega) (by omega)).trans (by omega)
    refine xi_isub (pc' := 26) (v := v1) kc_176_25 rfl ev1 ?_
    by_cases c2 : (x2.toInt + (-1) * x3.toInt) < x7.toInt
    · refine xi_cmt (pc' := 86) kc_176_26 rfl (xc_gt_t (X := x7.toInt) (Y := (x2.toInt + (-1) * x3.toInt)) rfl zv1 (by omega)) ?_
      refine xi_iload (pc' := 88) (x := x6) kc_176_86 rfl rfl ?_
      refine xi_ireturn kc_176_88 mr_176 rfl ?_
      exact kk x6 h K
    · refine xi_cmf (pc' := 29) kc_176_26 rfl (xc_gt_f (X := x7.toInt) (Y := (x2.toInt + (-1) * x3.toInt)) rfl zv1 (by omega)) ?_
      refine xi_iload (pc' := 31) (x := x7) kc_176_29 rfl rfl ?_
      refine xi_bipush (pc' := 33) (v := 16) kc_176_31 rfl rfl ?_
      by_cases c3 : 16 ≤ x7.toInt
      · refine xi_cmt (pc' := 86) kc_176_33 rfl (xc_ge_t (X := x7.toInt) (Y := 16) rfl (by decide) (by omega)) ?_
        refine xi_iload (pc' := 88) (x := x6) kc_176_86 rfl rfl ?_
        refine xi_ireturn kc_176_88 mr_176 rfl ?_
        exact kk x6 h K
      · refine xi_cmf (pc' := 36) kc_176_33 rfl (xc_ge_f (X := x7.toInt) (Y := 16) rfl (by decide) (by omega)) ?_
        refine xi_aload_n (pc' := 37) (x := 80) kc_176_36 rfl rfl ?_
        have A4 := xq_80 K.1
        refine xi_getfield (pc' := 40) (v := .ref 84) kc_176_37 rfl rfl rfl A4 rfl ?_
        refine xi_iload (pc' := 42) (x := x7) kc_176_40 rfl rfl ?_
        refine xcps4 (xk_arr K.1 xD_84) (fun y5 A5 hy5 ry5 => ?_)
        refine xcps4 (xj_get hy5 ry5 (i := x7) (by omega) (by omega)) (fun v6 ev6 bv6 dv6 => ?_)
        refine xi_iaload (pc' := 43) (v := v6) kc_176_42 rfl A5 (by decide) rfl (xi_in (by omega) (by rw [hy5]; omega)) ev6 ?_
        refine xi_iload (pc' := 45) (x := x4) kc_176_43 rfl rfl ?_
        refine xcps2 (α := Int32) ((v6 : Int32) &&& x4) (fun v7 ev7 => ?_)
        have rv7 := xc_rng v7
        refine xi_iand (pc' := 46) (v := v7) kc_176_45 rfl ev7 ?_
        refine xi_static (mj := 4) (as := [.int v7]) (st1 := []) (lv0 := [(0, .int v7)]) kc_176_46 rfl rfl (Nat.le_of_ble_eq_true rfl) rfl rfl (Nat.le_of_ble_eq_true rfl) (hJ _ _ _ _ (by decide)) (xm_le ml_4 rfl) rfl ?_
        refine mt_4_0 hJ hov1 hov2 (d := d + t + 1) (x0 := v7) K.1 (fun r8 hh9 K10 => ?_)
        have br8 := xc_rng r8
        have K11 := xk_tr K K10 rfl
        show xw J ov (d + t + 3) 176 (49, [(0, .ref 80), (2, .int x2), (3, .int x3), (4, .int x4), (5, .int x5), (6, .int x6), (7, .int x7)], [.int r8], hh9) _
        refine xi_istore (pc' := 51) (lv' := [(8, .int r8), (0, .ref 80), (2, .int x2), (3, .int x3), (4, .int x4), (5, .int x5), (6, .int x6), (7, .int x7)]) kc_176_49 rfl rfl (xm_lt ml_176 rfl) ?_
        refine xi_iload (pc' := 53) (x := x6) kc_176_51 rfl rfl ?_
        refine xi_aload_n (pc' := 54) (x := 80) kc_176_53 rfl rfl ?_
        refine xi_iload (pc' := 56) (x := x7) kc_176_54 rfl rfl ?_
        refine xi_iconst (pc' := 57) (v := 1) kc_176_56 rfl rfl ?_
        refine xcps2 (α := Int32) (x7 + 1) (fun v12 ev12 => ?_)
        have zv12 : v12.toInt = (x7.toInt + 1) := by rw [← ev12]; exact (xz_add (X := x7.toInt) (Y := 1) rfl (by decide) (by omega) (by omega)).trans (by omega)
        refine xi_iadd (pc' := 58) (v := v12) kc_176_57 rfl ev12 ?_
        refine xi_iload_n (pc' := 59) (x := x2) kc_176_58 rfl rfl ?_
        refine xi_iload_n (pc' := 60) (x := x3) kc_176_59 rfl rfl ?_
        refine xi_iconst (pc' := 61) (v := 1) kc_176_60 rfl rfl ?_
        refine xcps2 (α := Int32) (x3 - 1) (fun v13 ev13 => ?_)
        have zv13 : v13.toInt = (x3.toInt + (-1)) := by rw [← ev13]; exact (xz_sub (X := x3.toInt) (Y := 1) rfl (by decide) (by omega) (by omega)).trans (by omega)
        refine xi_isub (pc' := 62) (v := v13) kc_176_61 rfl ev13 ?_
        refine xi_iload (pc' := 64) (x := x4) kc_176_62 rfl rfl ?_
        refine xi_iconst (pc' := 65) (v := 1) kc_176_64 rfl rfl ?_
        refine xi_iload (pc' := 67) (x := x7) kc_176_65 rfl rfl ?_
        refine xcps2 (α := Int32) ((1 : Int32) <<< (x7 &&& 31)) (fun v14 ev14 => ?_)
        have rv14 := xc_rng v14
        refine xi_ishl (pc' := 68) (v := v14) kc_176_67 rfl ev14 ?_
        refine xcps2 (α := Int32) ((x4 : Int32) ||| v14) (fun v15 ev15 => ?_)
        have rv15 := xc_rng v15
        refine xi_ior (pc' := 69) (v := v15) kc_176_68 rfl ev15 ?_
        refine xi_iload (pc' := 71) (x := x5) kc_176_69 rfl rfl ?_
        refine xi_iload (pc' := 73) (x := r8) kc_176_71 rfl rfl ?_
        refine xcps2 (α := Int32) ((x5 : Int32) - r8) (fun v16 ev16 => ?_)
        have rv16 := xc_rng v16
        refine xi_isub (pc' := 74) (v := v16) kc_176_73 rfl ev16 ?_
        have A17 := xq_80 K11.1
        refine xi_virtual (mj := 176) (as := [.int v12, .int x2, .int v13, .int v15, .int v16]) (st1 := [.int x6]) (lv0 := [(0, .ref 80), (1, .int v12), (2, .int x2), (3, .int v13), (4, .int v15), (5, .int v16)]) kc_176_74 rfl rfl rfl rfl rfl A17 (Nat.le_of_ble_eq_true rfl) (hJ _ _ _ _ (by decide)) (xm_le ml_176 rfl) rfl ?_
        refine hrec (x1 := v12) (x2 := x2) (x3 := v13) (x4 := v15) (x5 := v16) K11.1 (by first | omega | decide) (by first | omega | decide) (by first | omega | decide) (by first | omega | decide) (fun r18 hh19 K20 => ?_)
        have br18 := xc_rng r18
        have K21 := xk_tr K11 K20 rfl
        show xw J ov (d + t + 3) 176 (77, [(8, .int r8), (0, .ref 80), (2, .int x2), (3, .int x3), (4, .int x4), (5, .int x5), (6, .int x6), (7, .int x7)], [.int r18, .int x6], hh19) _
        refine xcps2 (α := Int32) ((x6 : Int32) + r18) (fun v22 ev22 => ?_)
        have rv22 := xc_rng v22
        refine xi_iadd (pc' := 78) (v := v22) kc_176_77 rfl ev22 ?_
        refine xi_istore (pc' := 80) (lv' := [(6, .int v22), (8, .int r8), (0, .ref 80), (2, .int x2), (3, .int x3), (4, .int x4), (5, .int x5), (7, .int x7)]) kc_176_78 rfl rfl (xm_lt ml_176 rfl) ?_
        refine xi_iinc (pc' := 83) (x := x7) (v := v12) (lv' := [(7, .int v12), (6, .int v22), (8, .int r8), (0, .ref 80), (2, .int x2), (3, .int x3), (4, .int x4), (5, .int x5)]) kc_176_80 rfl rfl ev12 rfl (xm_lt ml_176 rfl) ?_
        refine xi_goto (pc' := 21) kc_176_83 rfl ?_
        refine xw_lv (b := [(0, .ref 80), (2, .int x2), (3, .int x3), (4, .int x4), (5, .int x5), (6, .int v22), (7, .int v12)]) (lvS_cons (lvS_cons (lvS_cons (lvS_cons (lvS_cons (lvS_cons (lvS_cons (lvS_nil (show ([7, 6, 8, 0, 2, 3, 4, 5] : List Nat).Nodup by decide)) rfl) rfl) rfl) rfl) rfl) rfl) rfl) ?_
        exact i0 x2 x3 x4 x5 v22 v12 hh19 (by omega) (by omega) (by omega) (by omega) K21 (by omega)
set_option maxHeartbeats 4000000 in
theorem mr_176_0 {J : xe_J} {ov : List (List Int32)} (hJ : ∀ d mj as h, mj ≠ xe_loff → J d mj as h = none) (hov1 : ov[1]? = some [10, 0, 0, 0, 0, 0]) (hov2 : ov[2]? = some [99, 30, 50, 50, 1, 99999]) {d : Nat} : ∀ t : Nat, (∀ {Q : Option Value → xe_H → Prop} {h : xe_H} {x1 : Int32} {x2 : Int32} {x3 : Int32} {x4 : Int32} {x5 : Int32}, xt h → (0 ≤ x1.toInt ∧ x1.toInt ≤ 16) → (0 ≤ x2.toInt ∧ x2.toInt ≤ 16) → (0 ≤ x3.toInt ∧ x3.toInt ≤ 16) → x3.toInt ≤ ((t : Nat) : Int) → (∀ (r : Int32) (h' : xe_H), xk [(0, 9), (115, 1), (83, 0), (29, 0), (31, 0), (33, 0), (35, 0), (37, 0), (39, 0), (41, 0), (43, 0), (45, 0), (47, 0), (49, 0), (51, 0), (125, 0), (29, 2), (31, 2), (33, 2), (35, 2), (37, 2), (39, 2), (41, 2), (43, 2), (45, 2), (47, 2), (49, 2), (51, 2), (127, 0), (1, 5), (115, 23)] h h' → Q (some (.int r)) h') → xw J ov (d + t + 2) 176 (0, [(0, .ref 80), (1, .int x1), (2, .int x2), (3, .int x3), (4, .int x4), (5, .int x5)], [], h) Q) := by
  intro t
  induction t with
  | zero =>
    intro Q h x1 x2 x3 x4 x5 T b1 b2 b3 ht kk
    have K : xk [(0, 9), (115, 1), (83, 0), (29, 0), (31, 0), (33, 0), (35, 0), (37, 0), (39, 0), (41, 0), (43, 0), (45, 0), (47, 0), (49, 0), (51, 0), (125, 0), (29, 2), (31, 2), (33, 2), (35, 2), (37, 2), (39, 2), (41, 2), (43, 2), (45, 2), (47, 2), (49, 2), (51, 2), (127, 0), (1, 5), (115, 23)] h h := xk_re T
    have bz : 0 ≤ x3.toInt ∧ x3.toInt ≤ 0 := by omega
    show xw J ov (d + 0 + 2) 176 (0, [(0, .ref 80), (1, .int x1), (2, .int x2), (3, .int x3), (4, .int x4), (5, .int x5)], [], h) Q
    have rx4 := xc_rng x4
    have rx5 := xc_rng x5
    refine xi_iload_n (pc' := 1) (x := x3) kc_176_0 rfl rfl ?_
    refine xi_iff (pc' := 4) kc_176_1 rfl (xc_ne_f (X := x3.toInt) (Y := 0) rfl (by decide) (by omega)) ?_
    refine xi_iload (pc' := 6) (x := x5) kc_176_4 rfl rfl ?_
    by_cases c1 : 0 < x5.toInt
    · refine xi_ift (pc' := 13) kc_176_6 rfl (xc_gt_t (X := x5.toInt) (Y := 0) rfl (by decide) (by omega)) ?_
      refine xi_iconst (pc' := 14) (v := 0) kc_176_13 rfl rfl ?_
      refine xi_ireturn kc_176_14 mr_176 rfl ?_
      have zc0 : (0 : Int32).toInt = 0 := by decide
      exact kk 0 h K
    · refine xi_iff (pc' := 9) kc_176_6 rfl (xc_gt_f (X := x5.toInt) (Y := 0) rfl (by decide) (by omega)) ?_
      refine xi_iconst (pc' := 10) (v := 1) kc_176_9 rfl rfl ?_
      refine xi_goto (pc' := 14) kc_176_10 rfl ?_
      refine xi_ireturn kc_176_14 mr_176 rfl ?_
      have zc1 : (1 : Int32).toInt = 1 := by decide
      exact kk 1 h K
  | succ t ih =>
    intro Q h x1 x2 x3 x4 x5 T b1 b2 b3 ht kk
    have hrec := @ih
    rw [show d + (t + 1) + 2 = d + t + 3 by omega]
    have K : xk [(0, 9), (115, 1), (83, 0), (29, 0), (31, 0), (33, 0), (35, 0), (37, 0), (39, 0), (41, 0), (43, 0), (45, 0), (47, 0), (49, 0), (51, 0), (125, 0), (29, 2), (31, 2), (33, 2), (35, 2), (37, 2), (39, 2), (41, 2), (43, 2), (45, 2), (47, 2), (49, 2), (51, 2), (127, 0), (1, 5), (115, 23)] h h := xk_re T
    have rx4 := xc_rng x4
    have rx5 := xc_rng x5
    refine xi_iload_n (pc' := 1) (x := x3) kc_176_0 rfl rfl ?_
    by_cases c1 : x3.toInt = 0
    · refine xi_iff (pc' := 4) kc_176_1 rfl (xc_ne_f (X := x3.toInt) (Y := 0) rfl (by decide) (by omega)) ?_
      refine xi_iload (pc' := 6) (x := x5) kc_176_4 rfl rfl ?_
      by_cases c2 : 0 < x5.toInt
      · refine xi_ift (pc' := 13) kc_176_6 rfl (xc_gt_t (X := x5.toInt) (Y := 0) rfl (by decide) (by omega)) ?_
        refine xi_iconst (pc' := 14) (v := 0) kc_176_13 rfl rfl ?_
        refine xi_ireturn kc_176_14 mr_176 rfl ?_
        have zc0 : (0 : Int32).toInt = 0 := by decide
        exact kk 0 h K
      · refine xi_iff (pc' := 9) kc_176_6 rfl (xc_gt_f (X := x5.toInt) (Y := 0) rfl (by decide) (by omega)) ?_
        refine xi_iconst (pc' := 10) (v := 1) kc_176_9 rfl rfl ?_
        refine xi_goto (pc' := 14) kc_176_10 rfl ?_
        refine xi_ireturn kc_176_14 mr_176 rfl ?_
        have zc1 : (1 : Int32).toInt = 1 := by decide
        exact kk 1 h K
    · refine xi_ift (pc' := 15) kc_176_1 rfl (xc_ne_t (X := x3.toInt) (Y := 0) rfl (by decide) (by omega)) ?_
      refine xi_iconst (pc' := 16) (v := 0) kc_176_15 rfl rfl ?_
      refine xi_istore (pc' := 18) (lv' := [(6, .int 0), (0, .ref 80), (1, .int x1), (2, .int x2), (3, .int x3), (4, .int x4), (5, .int x5)]) kc_176_16 rfl rfl (xm_lt ml_176 rfl) ?_
      refine xi_iload_n (pc' := 19) (x := x1) kc_176_18 rfl rfl ?_
      refine xi_istore (pc' := 21) (lv' := [(7, .int x1), (6, .int 0), (0, .ref 80), (1, .int x1), (2, .int x2), (3, .int x3), (4, .int x4), (5, .int x5)]) kc_176_19 rfl rfl (xm_lt ml_176 rfl) ?_
      have zc0 : (0 : Int32).toInt = 0 := by decide
      refine xw_lv (b := [(0, .ref 80), (2, .int x2), (3, .int x3), (4, .int x4), (5, .int x5), (6, .int 0), (7, .int x1)]) (lvS_cons (lvS_cons (lvS_cons (lvS_cons (lvS_cons (lvS_cons (lvS_cons (lvS_nil (show ([7, 6, 0, 1, 2, 3, 4, 5] : List Nat).Nodup by decide)) rfl) rfl) rfl) rfl) rfl) rfl) rfl) ?_
      exact (lp_176_0 hJ hov1 hov2 (d := d) hrec (hb := h) (fun r9 h9 K9 => kk r9 h9 (xk_tr K K9 rfl)) 17) x2 x3 x4 x5 0 x1 h (by omega) (by omega) (by omega) (by omega) (xk_re K.1) (by omega)
theorem mt_176_0 {J : xe_J} {ov : List (List Int32)} (hJ : ∀ d mj as h, mj ≠ xe_loff → J d mj as h = none) (hov1 : ov[1]? = some [10, 0, 0, 0, 0, 0]) (hov2 : ov[2]? = some [99, 30, 50, 50, 1, 99999]) {d : Nat} {Q : Option Value → xe_H → Prop} {h : xe_H} {x1 : Int32} {x2 : Int32} {x3 : Int32} {x4 : Int32} {x5 : Int32} (T : xt h) (b1 : (0 ≤ x1.toInt ∧ x1.toInt ≤ 16)) (b2 : (0 ≤ x2.toInt ∧ x2.toInt ≤ 16)) (b3 : (0 ≤ x3.toInt ∧ x3.toInt ≤ 16)) (kk : (∀ (r : Int32) (h' : xe_H), xk [(0, 9), (115, 1), (83, 0), (29, 0), (31, 0), (33, 0), (35, 0), (37, 0), (39, 0), (41, 0), (43, 0), (45, 0), (47, 0), (49, 0), (51, 0), (125, 0), (29, 2), (31, 2), (33, 2), (35, 2), (37, 2), (39, 2), (41, 2), (43, 2), (45, 2), (47, 2), (49, 2), (51, 2), (127, 0), (1, 5), (115, 23)] h h' → Q (some (.int r)) h')) : xw J ov (d + 18) 176 (0, [(0, .ref 80), (1, .int x1), (2, .int x2), (3, .int x3), (4, .int x4), (5, .int x5)], [], h) Q :=
  mr_176_0 hJ hov1 hov2 16 T b1 b2 b3 (by omega) kk
set_option maxHeartbeats 4000000 in
theorem lp_174_0 {J : xe_J} {ov : List (List Int32)} (hJ : ∀ d mj as h, mj ≠ xe_loff → J d mj as h = none) (hov1 : ov[1]? = some [10, 0, 0, 0, 0, 0]) (hov2 : ov[2]? = some [99, 30, 50, 50, 1, 99999]) {d : Nat} {Q : Option Value → xe_H → Prop} {hb : xe_H} (kk : (∀ (r : Int32) (h' : xe_H), xk [(0, 9), (115, 1), (83, 0), (29, 0), (31, 0), (33, 0), (35, 0), (37, 0), (39, 0), (41, 0), (43, 0), (45, 0), (47, 0), (49, 0), (51, 0), (125, 0), (29, 2), (31, 2), (33, 2), (35, 2), (37, 2), (39, 2), (41, 2), (43, 2), (45, 2), (47, 2), (49, 2), (51, 2), (127, 0), (1, 5), (115, 23)] hb h' → Q (some (.int r)) h')) : ∀ m : Nat, (∀ (x1 : Int32) (x2 : Int32) (x3 : Int32) (x4 : Int32) (h : xe_H), (0 ≤ x2.toInt ∧ x2.toInt ≤ 16) → (0 ≤ x3.toInt ∧ x3.toInt ≤ 17) → (0 ≤ x4.toInt ∧ x4.toInt ≤ 24) → (x3.toInt + (-1) * x2.toInt + 0 ≤ 0) → xk [(0, 9), (115, 1), (83, 0), (29, 0), (31, 0), (33, 0), (35, 0), (37, 0), (39, 0), (41, 0), (43, 0), (45, 0), (47, 0), (49, 0), (51, 0), (125, 0), (29, 2), (31, 2), (33, 2), (35, 2), (37, 2), (39, 2), (41, 2), (43, 2), (45, 2), (47, 2), (49, 2), (51, 2), (127, 0), (1, 5), (115, 23)] hb h → (-1) * x4.toInt + 24 < (m : Int) → xw J ov (d + 19) 174 (7, [(0, .ref 80), (1, .int x1), (2, .int x2), (3, .int x3), (4, .int x4)], [], h) Q) := by
  intro m
  induction m with
  | zero =>
    intro x1 x2 x3 x4 h b2 b3 b4 gh0 K hm; have rx1 := xc_rng x1; exfalso; omega
  | succ m ih =>
    have i0 := ih
    intro x1 x2 x3 x4 h b2 b3 b4 gh0 K hm
    have rx1 := xc_rng x1
    refine xi_iload (pc' := 9) (x := x4) kc_174_7 rfl rfl ?_
    refine xi_bipush (pc' := 11) (v := 24) kc_174_9 rfl rfl ?_
    by_cases c1 : 24 ≤ x4.toInt
    · refine xi_cmt (pc' := 62) kc_174_11 rfl (xc_ge_t (X := x4.toInt) (Y := 24) rfl (by decide) (by omega)) ?_
      refine xi_aload_n (pc' := 63) (x := 80) kc_174_62 rfl rfl ?_
      refine xi_iconst (pc' := 64) (v := 0) kc_174_63 rfl rfl ?_
      refine xi_iload_n (pc' := 65) (x := x2) kc_174_64 rfl rfl ?_
      refine xi_iload_n (pc' := 66) (x := x3) kc_174_65 rfl rfl ?_
      refine xi_iconst (pc' := 67) (v := 0) kc_174_66 rfl rfl ?_
      refine xi_iload_n (pc' := 68) (x := x1) kc_174_67 rfl rfl ?_
      have A2 := xq_80 K.1
      refine xi_virtual (mj := 176) (as := [.int 0, .int x2, .int x3, .int 0, .int x1]) (st1 := []) (lv0 := [(0, .ref 80), (1, .int 0), (2, .int x2), (3, .int x3), (4, .int 0), (5, .int x1)]) kc_174_68 rfl rfl rfl rfl rfl A2 (Nat.le_of_ble_eq_true rfl) (hJ _ _ _ _ (by decide)) (xm_le ml_176 rfl) rfl ?_
      have zc0 : (0 : Int32).toInt = 0 := by decide
      refine mt_176_0 hJ hov1 hov2 (d := d) (x1 := 0) (x2 := x2) (x3 := x3) (x4 := 0) (x5 := x1) K.1 (by first | omega | decide) (by first | omega | decide) (by first | omega | decide) (fun r3 hh4 K5 => ?_)
      have br3 := xc_rng r3
      have K6 := xk_tr K K5 rfl
      show xw J ov (d + 19) 174 (71, [(0, .ref 80), (1, .int x1), (2, .int x2), (3, .int x3), (4, .int x4)], [.int r3], hh4) _
      refine xi_ireturn kc_174_71 mr_174 rfl ?_
      exact kk r3 hh4 K6
    · refine xi_cmf (pc' := 14) kc_174_11 rfl (xc_ge_f (X := x4.toInt) (Y := 24) rfl (by decide) (by omega)) ?_
      refine xi_aload_n (pc' := 15) (x := 80) kc_174_14 rfl rfl ?_
      have A7 := xq_80 K.1
      refine xi_getfield (pc' := 18) (v := .ref 83) kc_174_15 rfl rfl rfl A7 rfl ?_
      refine xi_iload (pc' := 20) (x := x4) kc_174_18 rfl rfl ?_
      refine xcps4 (xk_arr K.1 xD_83) (fun y8 A8 hy8 ry8 => ?_)
      refine xcps4 (xj_get hy8 ry8 (i := x4) (by omega) (by omega)) (fun v9 ev9 bv9 dv9 => ?_)
      refine xi_iaload (pc' := 21) (v := v9) kc_174_20 rfl A8 (by decide) rfl (xi_in (by omega) (by rw [hy8]; omega)) ev9 ?_
      refine xi_iconst (pc' := 22) (v := 2) kc_174_21 rfl rfl ?_
      by_cases c10 : v9.toInt = 2
      · refine xi_cmt (pc' := 56) kc_174_22 rfl (xc_eq_t (X := v9.toInt) (Y := 2) rfl (by decide) (by omega)) ?_
        refine xcps2 (α := Int32) (x4 + 1) (fun v11 ev11 => ?_)
        have zv11 : v11.toInt = (x4.toInt + 1) := by rw [← ev11]; exact (xz_add (X := x4.toInt) (Y := 1) rfl (by decide) (by omega) (by omega)).trans (by omega)
        refine xi_iinc (pc' := 59) (x := x4) (v := v11) (lv' := [(4, .int v11), (0, .ref 80), (1, .int x1), (2, .int x2), (3, .int x3)]) kc_174_56 rfl rfl ev11 rfl (xm_lt ml_174 rfl) ?_
        refine xi_goto (pc' := 7) kc_174_59 rfl ?_
        refine xw_lv (b := [(0, .ref 80), (1, .int x1), (2, .int x2), (3, .int x3), (4, .int v11)]) (lvS_cons (lvS_cons (lvS_cons (lvS_cons (lvS_cons (lvS_nil (show ([4, 0, 1, 2, 3] : List Nat).Nodup by decide)) rfl) rfl) rfl) rfl) rfl) ?_
        exact i0 x1 x2 x3 v11 h (by omega) (by omega) (by omega) (by first | omega | decide) K (by omega)
      · refine xi_cmf (pc' := 25) kc_174_22 rfl (xc_eq_f (X := v9.toInt) (Y := 2) rfl (by decide) (by omega)) ?_
        refine xi_iload_n (pc' := 26) (x := x2) kc_174_25 rfl rfl ?_
        refine xi_bipush (pc' := 28) (v := 16) kc_174_26 rfl rfl ?_
        by_cases c12 : 16 ≤ x2.toInt
        · refine xi_cmt (pc' := 56) kc_174_28 rfl (xc_ge_t (X := x2.toInt) (Y := 16) rfl (by decide) (by omega)) ?_
          refine xcps2 (α := Int32) (x4 + 1) (fun v13 ev13 => ?_)
          have zv13 : v13.toInt = (x4.toInt + 1) := by rw [← ev13]; exact (xz_add (X := x4.toInt) (Y := 1) rfl (by decide) (by omega) (by omega)).trans (by omega)
          refine xi_iinc (pc' := 59) (x := x4) (v := v13) (lv' := [(4, .int v13), (0, .ref 80), (1, .int x1), (2, .int x2), (3, .int x3)]) kc_174_56 rfl rfl ev13 rfl (xm_lt ml_174 rfl) ?_
          refine xi_goto (pc' := 7) kc_174_59 rfl ?_
          refine xw_lv (b := [(0, .ref 80), (1, .int x1), (2, .int x2), (3, .int x3), (4, .int v13)]) (lvS_cons (lvS_cons (lvS_cons (lvS_cons (lvS_cons (lvS_nil (show ([4, 0, 1, 2, 3] : List Nat).Nodup by decide)) rfl) rfl) rfl) rfl) rfl) ?_
          exact i0 x1 x2 x3 v13 h (by omega) (by omega) (by omega) (by first | omega | decide) K (by omega)
        · refine xi_cmf (pc' := 31) kc_174_28 rfl (xc_ge_f (X := x2.toInt) (Y := 16) rfl (by decide) (by omega)) ?_
          refine xi_aload_n (pc' := 32) (x := 80) kc_174_31 rfl rfl ?_
          refine xi_getfield (pc' := 35) (v := .ref 84) kc_174_32 rfl rfl rfl A7 rfl ?_
          refine xi_iload_n (pc' := 36) (x := x2) kc_174_35 rfl rfl ?_
          refine xi_aload_n (pc' := 37) (x := 80) kc_174_36 rfl rfl ?_
          refine xi_iload (pc' := 39) (x := x4) kc_174_37 rfl rfl ?_
          refine xi_virtual (mj := 175) (as := [.int x4]) (st1 := [.int x2, .ref 84]) (lv0 := [(0, .ref 80), (1, .int x4)]) kc_174_39 rfl rfl rfl rfl rfl A7 (Nat.le_of_ble_eq_true rfl) (hJ _ _ _ _ (by decide)) (xm_le ml_175 rfl) rfl ?_
          refine mt_175_0 hJ hov1 hov2 (d := d + 15) (x1 := x4) K.1 (by first | omega | decide) (fun r14 hh15 K16 => ?_)
          have br14 := xc_rng r14
          have K17 := xk_tr K K16 rfl
          have A18 := xk_eqa (q := 0) K16 rfl A8
          show xw J ov (d + 19) 174 (42, [(0, .ref 80), (1, .int x1), (2, .int x2), (3, .int x3), (4, .int x4)], [.int r14, .int x2, .ref 84], hh15) _
          refine xcps4 (xk_arr K17.1 xD_84) (fun y19 A19 hy19 ry19 => ?_)
          refine xcps4 (xj_set (v := r14) hy19 ry19 x2 (by first | omega | decide) (by first | omega | decide)) (fun y20 s20 hy20 ry20 => ?_)
          refine xi_iastore (pc' := 43) (x' := y20) kc_174_42 rfl A19 rfl (xi_in (by omega) (by rw [hy19]; omega)) s20 (fun hh20 eh20 => ?_)
          have K21 := xk_pa K17 (xk_wa rfl) xD_84 hy20 ry20 eh20
          refine xcps2 (α := Int32) (x2 + 1) (fun v22 ev22 => ?_)
          have zv22 : v22.toInt = (x2.toInt + 1) := by rw [← ev22]; exact (xz_add (X := x2.toInt) (Y := 1) rfl (by decide) (by omega) (by omega)).trans (by omega)
          refine xi_iinc (pc' := 46) (x := x2) (v := v22) (lv' := [(2, .int v22), (0, .ref 80), (1, .int x1), (3, .int x3), (4, .int x4)]) kc_174_43 rfl rfl ev22 rfl (xm_lt ml_174 rfl) ?_
          refine xi_iload_n (pc' := 47) (x := x3) kc_174_46 rfl rfl ?_
          refine xi_aload_n (pc' := 48) (x := 80) kc_174_47 rfl rfl ?_
          have A23 := xq_80 K21.1
          refine xi_getfield (pc' := 51) (v := .ref 83) kc_174_48 rfl rfl rfl A23 rfl ?_
          refine xi_iload (pc' := 53) (x := x4) kc_174_51 rfl rfl ?_
          have A24 := ((eh20.2.1 83 (by decide)).trans A18)
          refine xi_iaload (pc' := 54) (v := v9) kc_174_53 rfl A24 (by decide) rfl (xi_in (by omega) (by rw [hy8]; omega)) ev9 ?_
          refine xcps2 (α := Int32) (x3 + v9) (fun v25 ev25 => ?_)
          have zv25 : v25.toInt = (x3.toInt + v9.toInt) := by rw [← ev25]; exact (xz_add (X := x3.toInt) (Y := v9.toInt) rfl rfl (by omega) (by omega)).trans (by omega)
          refine xi_iadd (pc' := 55) (v := v25) kc_174_54 rfl ev25 ?_
          refine xi_istore_n (pc' := 56) (lv' := [(3, .int v25), (2, .int v22), (0, .ref 80), (1, .int x1), (4, .int x4)]) kc_174_55 rfl rfl (xm_lt ml_174 rfl) ?_
          refine xcps2 (α := Int32) (x4 + 1) (fun v26 ev26 => ?_)
          have zv26 : v26.toInt = (x4.toInt + 1) := by rw [← ev26]; exact (xz_add (X := x4.toInt) (Y := 1) rfl (by decide) (by omega) (by omega)).trans (by omega)
          refine xi_iinc (pc' := 59) (x := x4) (v := v26) (lv' := [(4, .int v26), (3, .int v25), (2, .int v22), (0, .ref 80), (1, .int x1)]) kc_174_56 rfl rfl ev26 rfl (xm_lt ml_174 rfl) ?_
          refine xi_goto (pc' := 7) kc_174_59 rfl ?_
          refine xw_lv (b := [(0, .ref 80), (1, .int x1), (2, .int v22), (3, .int v25), (4, .int v26)]) (lvS_cons (lvS_cons (lvS_cons (lvS_cons (lvS_cons (lvS_nil (show ([4, 3, 2, 0, 1] : List Nat).Nodup by decide)) rfl) rfl) rfl) rfl) rfl) ?_
          exact i0 x1 v22 v25 v26 hh20 (by omega) (by omega) (by omega) (by first | omega | decide) K21 (by omega)
set_option maxHeartbeats 4000000 in
theorem mt_174_0 {J : xe_J} {ov : List (List Int32)} (hJ : ∀ d mj as h, mj ≠ xe_loff → J d mj as h = none) (hov1 : ov[1]? = some [10, 0, 0, 0, 0, 0]) (hov2 : ov[2]? = some [99, 30, 50, 50, 1, 99999]) {d : Nat} {Q : Option Value → xe_H → Prop} {h : xe_H} {x1 : Int32} (T : xt h) (kk : (∀ (r : Int32) (h' : xe_H), xk [(0, 9), (115, 1), (83, 0), (29, 0), (31, 0), (33, 0), (35, 0), (37, 0), (39, 0), (41, 0), (43, 0), (45, 0), (47, 0), (49, 0), (51, 0), (125, 0), (29, 2), (31, 2), (33, 2), (35, 2), (37, 2), (39, 2), (41, 2), (43, 2), (45, 2), (47, 2), (49, 2), (51, 2), (127, 0), (1, 5), (115, 23)] h h' → Q (some (.int r)) h')) : xw J ov (d + 19) 174 (0, [(0, .ref 80), (1, .int x1)], [], h) Q := by
  have K : xk [(0, 9), (115, 1), (83, 0), (29, 0), (31, 0), (33, 0), (35, 0), (37, 0), (39, 0), (41, 0), (43, 0), (45, 0), (47, 0), (49, 0), (51, 0), (125, 0), (29, 2), (31, 2), (33, 2), (35, 2), (37, 2), (39, 2), (41, 2), (43, 2), (45, 2), (47, 2), (49, 2), (51, 2), (127, 0), (1, 5), (115, 23)] h h := xk_re T
  have rx1 := xc_rng x1
  refine xi_iconst (pc' := 1) (v := 0) kc_174_0 rfl rfl ?_
  refine xi_istore_n (pc' := 2) (lv' := [(2, .int 0), (0, .ref 80), (1, .int x1)]) kc_174_1 rfl rfl (xm_lt ml_174 rfl) ?_
  refine xi_iconst (pc' := 3) (v := 0) kc_174_2 rfl rfl ?_
  refine xi_istore_n (pc' := 4) (lv' := [(3, .int 0), (2, .int 0), (0, .ref 80), (1, .int x1)]) kc_174_3 rfl rfl (xm_lt ml_174 rfl) ?_
  refine xi_iconst (pc' := 5) (v := 0) kc_174_4 rfl rfl ?_
  refine xi_istore (pc' := 7) (lv' := [(4, .int 0), (3, .int 0), (2, .int 0), (0, .ref 80), (1, .int x1)]) kc_174_5 rfl rfl (xm_lt ml_174 rfl) ?_
  have zc0 : (0 : Int32).toInt = 0 := by decide
  refine xw_lv (b := [(0, .ref 80), (1, .int x1), (2, .int 0), (3, .int 0), (4, .int 0)]) (lvS_cons (lvS_cons (lvS_cons (lvS_cons (lvS_cons (lvS_nil (show ([4, 3, 2, 0, 1] : List Nat).Nodup by decide)) rfl) rfl) rfl) rfl) rfl) ?_
  exact (lp_174_0 hJ hov1 hov2 (d := d) (hb := h) (fun r9 h9 K9 => kk r9 h9 (xk_tr K K9 rfl)) 25) x1 0 0 0 h (by omega) (by omega) (by omega) (by first | omega | decide) (xk_re K.1) (by omega)
set_option maxHeartbeats 4000000 in
theorem mt_172_0 {J : xe_J} {ov : List (List Int32)} (hJ : ∀ d mj as h, mj ≠ xe_loff → J d mj as h = none) (hov1 : ov[1]? = some [10, 0, 0, 0, 0, 0]) (hov2 : ov[2]? = some [99, 30, 50, 50, 1, 99999]) {d : Nat} {Q : Option Value → xe_H → Prop} {h : xe_H} {x1 : Int32} (T : xt h) (kk : (∀ (r : Int32) (h' : xe_H), xk [(0, 9), (115, 1), (83, 0), (29, 0), (31, 0), (33, 0), (35, 0), (37, 0), (39, 0), (41, 0), (43, 0), (45, 0), (47, 0), (49, 0), (51, 0), (125, 0), (29, 2), (31, 2), (33, 2), (35, 2), (37, 2), (39, 2), (41, 2), (43, 2), (45, 2), (47, 2), (49, 2), (51, 2), (127, 0), (1, 5), (115, 23)] h h' → Q (some (.int r)) h')) : xw J ov (d + 20) 172 (0, [(0, .ref 0), (1, .int x1)], [], h) Q := by
  have K : xk [(0, 9), (115, 1), (83, 0), (29, 0), (31, 0), (33, 0), (35, 0), (37, 0), (39, 0), (41, 0), (43, 0), (45, 0), (47, 0), (49, 0), (51, 0), (125, 0), (29, 2), (31, 2), (33, 2), (35, 2), (37, 2), (39, 2), (41, 2), (43, 2), (45, 2), (47, 2), (49, 2), (51, 2), (127, 0), (1, 5), (115, 23)] h h := xk_re T
  have rx1 := xc_rng x1
  refine xi_iload_n (pc' := 1) (x := x1) kc_172_0 rfl rfl ?_
  by_cases c1 : x1.toInt = 0
  · refine xi_ift (pc' := 16) kc_172_1 rfl (xc_eq_t (X := x1.toInt) (Y := 0) rfl (by decide) (by omega)) ?_
    refine xi_aload_n (pc' := 17) (x := 0) kc_172_16 rfl rfl ?_
    refine xp_0 K.1 (fun u2 u3 bu2 bu3 A4 => ?_)
    refine xi_getfield (pc' := 20) (v := .ref 80) kc_172_17 rfl rfl rfl A4 rfl ?_
    have A5 := xq_80 K.1
    refine xi_virtual (mj := 173) (as := []) (st1 := []) (lv0 := [(0, .ref 80)]) kc_172_20 rfl rfl rfl rfl rfl A5 (Nat.le_of_ble_eq_true rfl) (hJ _ _ _ _ (by decide)) (xm_le ml_173 rfl) rfl ?_
    refine mt_173_0 hJ hov1 hov2 (d := d + 18)  K.1 (fun r6 hh7 K8 => ?_)
    have br6 := xc_rng r6
    have K9 := xk_tr K K8 rfl
    refine xp_0 K9.1 (fun u10 u11 bu10 bu11 A12 => ?_)
    have e13 : u3 = u11 := xk_eqi (q := 9) K8 rfl A4 A12 rfl rfl
    subst e13
    show xw J ov (d + 20) 172 (23, [(0, .ref 0), (1, .int x1)], [.int r6], hh7) _
    refine xi_bipush (pc' := 25) (v := 16) kc_172_23 rfl rfl ?_
    by_cases c14 : r6.toInt ≤ 16
    · refine xi_cmt (pc' := 35) kc_172_25 rfl (xc_le_t (X := r6.toInt) (Y := 16) rfl (by decide) (by omega)) ?_
      refine xi_aload_n (pc' := 36) (x := 0) kc_172_35 rfl rfl ?_
      refine xi_getfield (pc' := 39) (v := .ref 80) kc_172_36 rfl rfl rfl A12 rfl ?_
      refine xi_iload_n (pc' := 40) (x := x1) kc_172_39 rfl rfl ?_
      refine xi_iff (pc' := 43) kc_172_40 rfl (xc_ne_f (X := x1.toInt) (Y := 0) rfl (by decide) (by omega)) ?_
      refine xi_aload_n (pc' := 44) (x := 0) kc_172_43 rfl rfl ?_
      refine xi_getfield (pc' := 47) (v := .ref 80) kc_172_44 rfl rfl rfl A12 rfl ?_
      have A15 := xq_80 K9.1
      refine xi_virtual (mj := 170) (as := []) (st1 := [.ref 80]) (lv0 := [(0, .ref 80)]) kc_172_47 rfl rfl rfl rfl rfl A15 (Nat.le_of_ble_eq_true rfl) (hJ _ _ _ _ (by decide)) (xm_le ml_170 rfl) rfl ?_
      refine mt_170_0 hJ hov1 hov2 (d := d + 16)  K9.1 (fun r16 hh17 K18 => ?_)
      have br16 := xc_rng r16
      have K19 := xk_tr K9 K18 rfl
      refine xp_0 K19.1 (fun u20 u21 bu20 bu21 A22 => ?_)
      have e23 : u3 = u21 := xk_eqi (q := 9) K18 rfl A12 A22 rfl rfl
      subst e23
      show xw J ov (d + 20) 172 (50, [(0, .ref 0), (1, .int x1)], [.int r16, .ref 80], hh17) _
      refine xi_goto (pc' := 54) kc_172_50 rfl ?_
      have A24 := xq_80 K19.1
      refine xi_virtual (mj := 174) (as := [.int r16]) (st1 := []) (lv0 := [(0, .ref 80), (1, .int r16)]) kc_172_54 rfl rfl rfl rfl rfl A24 (Nat.le_of_ble_eq_true rfl) (hJ _ _ _ _ (by decide)) (xm_le ml_174 rfl) rfl ?_
      refine mt_174_0 hJ hov1 hov2 (d := d) (x1 := r16) K19.1 (fun r25 hh26 K27 => ?_)
      have br25 := xc_rng r25
      have K28 := xk_tr K19 K27 rfl
      refine xp_0 K28.1 (fun u29 u30 bu29 bu30 A31 => ?_)
      have e32 : u3 = u30 := xk_eqi (q := 9) K27 rfl A22 A31 rfl rfl
      subst e32
      show xw J ov (d + 20) 172 (57, [(0, .ref 0), (1, .int x1)], [.int r25], hh26) _
      refine xi_ireturn kc_172_57 mr_172 rfl ?_
      exact kk r25 hh26 K28
    · refine xi_cmf (pc' := 28) kc_172_25 rfl (xc_le_f (X := r6.toInt) (Y := 16) rfl (by decide) (by omega)) ?_
      refine xi_aload_n (pc' := 29) (x := 0) kc_172_28 rfl rfl ?_
      refine xi_bipush (pc' := 31) (v := (-6)) kc_172_29 rfl rfl ?_
      refine xi_virtual (mj := 90) (as := [.int (-6)]) (st1 := []) (lv0 := [(0, .ref 0), (1, .int (-6))]) kc_172_31 rfl rfl rfl rfl rfl A12 (Nat.le_of_ble_eq_true rfl) (hJ _ _ _ _ (by decide)) (xm_le ml_90 rfl) rfl ?_
      refine xi_iload_n (pc' := 1) (x := (-6)) kc_90_0 rfl rfl ?_
      refine xi_ineg (pc' := 2) (v := 6) kc_90_1 rfl rfl ?_
      refine xi_istore_n (pc' := 3) (lv' := [(2, .int 6), (0, .ref 0), (1, .int (-6))]) kc_90_2 rfl rfl (xm_lt ml_90 rfl) ?_
      refine xi_iload_n (pc' := 4) (x := 6) kc_90_3 rfl rfl ?_
      refine xi_iff (pc' := 7) kc_90_4 rfl rfl ?_
      refine xi_iload_n (pc' := 8) (x := 6) kc_90_7 rfl rfl ?_
      refine xi_aload_n (pc' := 9) (x := 0) kc_90_8 rfl rfl ?_
      refine xi_getfield (pc' := 12) (v := .ref 94) kc_90_9 rfl rfl rfl A12 rfl ?_
      refine xcps4 (xk_arr K9.1 xD_94) (fun y33 A33 hy33 ry33 => ?_)
      refine xi_arraylength (pc' := 13) (n := 7) (v := 7) kc_90_12 rfl (xl_lenI (by decide) (by decide) A33 hy33) rfl ?_
      refine xi_cmf (pc' := 16) kc_90_13 rfl rfl ?_
      refine xi_aload_n (pc' := 17) (x := 0) kc_90_16 rfl rfl ?_
      refine xi_getfield (pc' := 20) (v := .ref 94) kc_90_17 rfl rfl rfl A12 rfl ?_
      refine xi_iload_n (pc' := 21) (x := 6) kc_90_20 rfl rfl ?_
      refine xi_dup2 (pc' := 22) kc_90_21 rfl ⟨rfl, rfl⟩ ?_
      refine xcps4 (xj_get hy33 ry33 (i := 6) (by decide) (by decide)) (fun v34 ev34 bv34 dv34 => ?_)
      refine xi_iaload (pc' := 23) (v := v34) kc_90_22 rfl A33 (by decide) rfl (xi_in (by decide) (by rw [hy33]; decide)) ev34 ?_
      refine xi_iconst (pc' := 24) (v := 1) kc_90_23 rfl rfl ?_
      refine xcps2 (α := Int32) ((v34 : Int32) + 1) (fun v35 ev35 => ?_)
      have rv35 := xc_rng v35
      refine xi_iadd (pc' := 25) (v := v35) kc_90_24 rfl ev35 ?_
      refine xcps4 (xj_set (v := v35) hy33 ry33 6 (by first | omega | decide) (by first | omega | decide)) (fun y36 s36 hy36 ry36 => ?_)
      refine xi_iastore (pc' := 26) (x' := y36) kc_90_25 rfl A33 rfl (xi_in (by decide) (by rw [hy33]; decide)) s36 (fun hh36 eh36 => ?_)
      have K37 := xk_pa K9 (xk_wa rfl) xD_94 hy36 ry36 eh36
      refine xi_iload_n (pc' := 27) (x := (-6)) kc_90_26 rfl rfl ?_
      refine xi_ireturn kc_90_27 mr_90 rfl ?_
      show xw J ov (d + 20) 172 (34, [(0, .ref 0), (1, .int x1)], [.int (-6)], hh36) _
      refine xi_ireturn kc_172_34 mr_172 rfl ?_
      have zcm6 : ((-6) : Int32).toInt = (-6) := by decide
      exact kk (-6) hh36 K37
  · refine xi_iff (pc' := 4) kc_172_1 rfl (xc_eq_f (X := x1.toInt) (Y := 0) rfl (by decide) (by omega)) ?_
    refine xi_iload_n (pc' := 5) (x := x1) kc_172_4 rfl rfl ?_
    refine xi_iconst (pc' := 6) (v := 1) kc_172_5 rfl rfl ?_
    by_cases c38 : x1.toInt = 1
    · refine xi_cmt (pc' := 16) kc_172_6 rfl (xc_eq_t (X := x1.toInt) (Y := 1) rfl (by decide) (by omega)) ?_
      refine xi_aload_n (pc' := 17) (x := 0) kc_172_16 rfl rfl ?_
      refine xp_0 K.1 (fun u39 u40 bu39 bu40 A41 => ?_)
      refine xi_getfield (pc' := 20) (v := .ref 80) kc_172_17 rfl rfl rfl A41 rfl ?_
      have A42 := xq_80 K.1
      refine xi_virtual (mj := 173) (as := []) (st1 := []) (lv0 := [(0, .ref 80)]) kc_172_20 rfl rfl rfl rfl rfl A42 (Nat.le_of_ble_eq_true rfl) (hJ _ _ _ _ (by decide)) (xm_le ml_173 rfl) rfl ?_
      refine mt_173_0 hJ hov1 hov2 (d := d + 18)  K.1 (fun r43 hh44 K45 => ?_)
      have br43 := xc_rng r43
      have K46 := xk_tr K K45 rfl
      refine xp_0 K46.1 (fun u47 u48 bu47 bu48 A49 => ?_)
      have e50 : u40 = u48 := xk_eqi (q := 9) K45 rfl A41 A49 rfl rfl
      subst e50
      show xw J ov (d + 20) 172 (23, [(0, .ref 0), (1, .int x1)], [.int r43], hh44) _
      refine xi_bipush (pc' := 25) (v := 16) kc_172_23 rfl rfl ?_
      by_cases c51 : r43.toInt ≤ 16
      · refine xi_cmt (pc' := 35) kc_172_25 rfl (xc_le_t (X := r43.toInt) (Y := 16) rfl (by decide) (by omega)) ?_
        refine xi_aload_n (pc' := 36) (x := 0) kc_172_35 rfl rfl ?_
        refine xi_getfield (pc' := 39) (v := .ref 80) kc_172_36 rfl rfl rfl A49 rfl ?_
        refine xi_iload_n (pc' := 40) (x := x1) kc_172_39 rfl rfl ?_
        refine xi_ift (pc' := 53) kc_172_40 rfl (xc_ne_t (X := x1.toInt) (Y := 0) rfl (by decide) (by omega)) ?_
        refine xi_iconst (pc' := 54) (v := 0) kc_172_53 rfl rfl ?_
        have A52 := xq_80 K46.1
        refine xi_virtual (mj := 174) (as := [.int 0]) (st1 := []) (lv0 := [(0, .ref 80), (1, .int 0)]) kc_172_54 rfl rfl rfl rfl rfl A52 (Nat.le_of_ble_eq_true rfl) (hJ _ _ _ _ (by decide)) (xm_le ml_174 rfl) rfl ?_
        have zc0 : (0 : Int32).toInt = 0 := by decide
        refine mt_174_0 hJ hov1 hov2 (d := d) (x1 := 0) K46.1 (fun r53 hh54 K55 => ?_)
        have br53 := xc_rng r53
        have K56 := xk_tr K46 K55 rfl
        refine xp_0 K56.1 (fun u57 u58 bu57 bu58 A59 => ?_)
        have e60 : u40 = u58 := xk_eqi (q := 9) K55 rfl A49 A59 rfl rfl
        subst e60
        show xw J ov (d + 20) 172 (57, [(0, .ref 0), (1, .int x1)], [.int r53], hh54) _
        refine xi_ireturn kc_172_57 mr_172 rfl ?_
        exact kk r53 hh54 K56
      · refine xi_cmf (pc' := 28) kc_172_25 rfl (xc_le_f (X := r43.toInt) (Y := 16) rfl (by decide) (by omega)) ?_
        refine xi_aload_n (pc' := 29) (x := 0) kc_172_28 rfl rfl ?_
        refine xi_bipush (pc' := 31) (v := (-6)) kc_172_29 rfl rfl ?_
        refine xi_virtual (mj := 90) (as := [.int (-6)]) (st1 := []) (lv0 := [(0, .ref 0), (1, .int (-6))]) kc_172_31 rfl rfl rfl rfl rfl A49 (Nat.le_of_ble_eq_true rfl) (hJ _ _ _ _ (by decide)) (xm_le ml_90 rfl) rfl ?_
        refine xi_iload_n (pc' := 1) (x := (-6)) kc_90_0 rfl rfl ?_
        refine xi_ineg (pc' := 2) (v := 6) kc_90_1 rfl rfl ?_
        refine xi_istore_n (pc' := 3) (lv' := [(2, .int 6), (0, .ref 0), (1, .int (-6))]) kc_90_2 rfl rfl (xm_lt ml_90 rfl) ?_
        refine xi_iload_n (pc' := 4) (x := 6) kc_90_3 rfl rfl ?_
        refine xi_iff (pc' := 7) kc_90_4 rfl rfl ?_
        refine xi_iload_n (pc' := 8) (x := 6) kc_90_7 rfl rfl ?_
        refine xi_aload_n (pc' := 9) (x := 0) kc_90_8 rfl rfl ?_
        refine xi_getfield (pc' := 12) (v := .ref 94) kc_90_9 rfl rfl rfl A49 rfl ?_
        refine xcps4 (xk_arr K46.1 xD_94) (fun y61 A61 hy61 ry61 => ?_)
        refine xi_arraylength (pc' := 13) (n := 7) (v := 7) kc_90_12 rfl (xl_lenI (by decide) (by decide) A61 hy61) rfl ?_
        refine xi_cmf (pc' := 16) kc_90_13 rfl rfl ?_
        refine xi_aload_n (pc' := 17) (x := 0) kc_90_16 rfl rfl ?_
        refine xi_getfield (pc' := 20) (v := .ref 94) kc_90_17 rfl rfl rfl A49 rfl ?_
        refine xi_iload_n (pc' := 21) (x := 6) kc_90_20 rfl rfl ?_
        refine xi_dup2 (pc' := 22) kc_90_21 rfl ⟨rfl, rfl⟩ ?_
        refine xcps4 (xj_get hy61 ry61 (i := 6) (by decide) (by decide)) (fun v62 ev62 bv62 dv62 => ?_)
        refine xi_iaload (pc' := 23) (v := v62) kc_90_22 rfl A61 (by decide) rfl (xi_in (by decide) (by rw [hy61]; decide)) ev62 ?_
        refine xi_iconst (pc' := 24) (v := 1) kc_90_23 rfl rfl ?_
        refine xcps2 (α := Int32) ((v62 : Int32) + 1) (fun v63 ev63 => ?_)
        have rv63 := xc_rng v63
        refine xi_iadd (pc' := 25) (v := v63) kc_90_24 rfl ev63 ?_
        refine xcps4 (xj_set (v := v63) hy61 ry61 6 (by first | omega | decide) (by first | omega | decide)) (fun y64 s64 hy64 ry64 => ?_)
        refine xi_iastore (pc' := 26) (x' := y64) kc_90_25 rfl A61 rfl (xi_in (by decide) (by rw [hy61]; decide)) s64 (fun hh64 eh64 => ?_)
        have K65 := xk_pa K46 (xk_wa rfl) xD_94 hy64 ry64 eh64
        refine xi_iload_n (pc' := 27) (x := (-6)) kc_90_26 rfl rfl ?_
        refine xi_ireturn kc_90_27 mr_90 rfl ?_
        show xw J ov (d + 20) 172 (34, [(0, .ref 0), (1, .int x1)], [.int (-6)], hh64) _
        refine xi_ireturn kc_172_34 mr_172 rfl ?_
        have zcm6 : ((-6) : Int32).toInt = (-6) := by decide
        exact kk (-6) hh64 K65
    · refine xi_cmf (pc' := 9) kc_172_6 rfl (xc_eq_f (X := x1.toInt) (Y := 1) rfl (by decide) (by omega)) ?_
      refine xi_aload_n (pc' := 10) (x := 0) kc_172_9 rfl rfl ?_
      refine xi_bipush (pc' := 12) (v := (-2)) kc_172_10 rfl rfl ?_
      refine xp_0 K.1 (fun u66 u67 bu66 bu67 A68 => ?_)
      refine xi_virtual (mj := 90) (as := [.int (-2)]) (st1 := []) (lv0 := [(0, .ref 0), (1, .int (-2))]) kc_172_12 rfl rfl rfl rfl rfl A68 (Nat.le_of_ble_eq_true rfl) (hJ _ _ _ _ (by decide)) (xm_le ml_90 rfl) rfl ?_
      refine xi_iload_n (pc' := 1) (x := (-2)) kc_90_0 rfl rfl ?_
      refine xi_ineg (pc' := 2) (v := 2) kc_90_1 rfl rfl ?_
      refine xi_istore_n (pc' := 3) (lv' := [(2, .int 2), (0, .ref 0), (1, .int (-2))]) kc_90_2 rfl rfl (xm_lt ml_90 rfl) ?_
      refine xi_iload_n (pc' := 4) (x := 2) kc_90_3 rfl rfl ?_
      refine xi_iff (pc' := 7) kc_90_4 rfl rfl ?_
      refine xi_iload_n (pc' := 8) (x := 2) kc_90_7 rfl rfl ?_
      refine xi_aload_n (pc' := 9) (x := 0) kc_90_8 rfl rfl ?_
      refine xi_getfield (pc' := 12) (v := .ref 94) kc_90_9 rfl rfl rfl A68 rfl ?_
      refine xcps4 (xk_arr K.1 xD_94) (fun y69 A69 hy69 ry69 => ?_)
      refine xi_arraylength (pc' := 13) (n := 7) (v := 7) kc_90_12 rfl (xl_lenI (by decide) (by decide) A69 hy69) rfl ?_
      refine xi_cmf (pc' := 16) kc_90_13 rfl rfl ?_
      refine xi_aload_n (pc' := 17) (x := 0) kc_90_16 rfl rfl ?_
      refine xi_getfield (pc' := 20) (v := .ref 94) kc_90_17 rfl rfl rfl A68 rfl ?_
      refine xi_iload_n (pc' := 21) (x := 2) kc_90_20 rfl rfl ?_
      refine xi_dup2 (pc' := 22) kc_90_21 rfl ⟨rfl, rfl⟩ ?_
      refine xcps4 (xj_get hy69 ry69 (i := 2) (by decide) (by decide)) (fun v70 ev70 bv70 dv70 => ?_)
      refine xi_iaload (pc' := 23) (v := v70) kc_90_22 rfl A69 (by decide) rfl (xi_in (by decide) (by rw [hy69]; decide)) ev70 ?_
      refine xi_iconst (pc' := 24) (v := 1) kc_90_23 rfl rfl ?_
      refine xcps2 (α := Int32) ((v70 : Int32) + 1) (fun v71 ev71 => ?_)
      have rv71 := xc_rng v71
      refine xi_iadd (pc' := 25) (v := v71) kc_90_24 rfl ev71 ?_
      refine xcps4 (xj_set (v := v71) hy69 ry69 2 (by first | omega | decide) (by first | omega | decide)) (fun y72 s72 hy72 ry72 => ?_)
      refine xi_iastore (pc' := 26) (x' := y72) kc_90_25 rfl A69 rfl (xi_in (by decide) (by rw [hy69]; decide)) s72 (fun hh72 eh72 => ?_)
      have K73 := xk_pa K (xk_wa rfl) xD_94 hy72 ry72 eh72
      refine xi_iload_n (pc' := 27) (x := (-2)) kc_90_26 rfl rfl ?_
      refine xi_ireturn kc_90_27 mr_90 rfl ?_
      show xw J ov (d + 20) 172 (15, [(0, .ref 0), (1, .int x1)], [.int (-2)], hh72) _
      refine xi_ireturn kc_172_15 mr_172 rfl ?_
      have zcm2 : ((-2) : Int32).toInt = (-2) := by decide
      exact kk (-2) hh72 K73
