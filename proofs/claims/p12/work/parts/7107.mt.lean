set_option maxHeartbeats 4000000 in
theorem lp_34_0 {J : xe_J} {ov : List (List Int32)} (hJ : ∀ d mj as h, mj ≠ xe_loff → J d mj as h = none) (hov1 : ov[1]? = some [10, 0, 0, 0, 0, 0]) (hov2 : ov[2]? = some [99, 30, 50, 50, 1, 99999]) {d : Nat} {Q : Option Value → xe_H → Prop} {hb : xe_H} {u0 : Int32} {gx1 : Int32} (bgu0 : (0 ≤ u0.toInt ∧ u0.toInt ≤ 600)) (kk : (∀ (r : Int32) (h' : xe_H), ((-6) ≤ r.toInt ∧ r.toInt ≤ 600) → (∀ v : Int32, xl h' (115, 1) = some (.inl (.int v)) → ((gx1.toInt < 1 ∧ r.toInt = -4 ∧ v.toInt = u0.toInt) ∨ (1 ≤ gx1.toInt ∧ 600 - u0.toInt < gx1.toInt ∧ r.toInt = -6 ∧ v.toInt = u0.toInt) ∨ (1 ≤ gx1.toInt ∧ gx1.toInt ≤ 600 - u0.toInt ∧ r.toInt = u0.toInt + gx1.toInt ∧ v.toInt = u0.toInt + gx1.toInt))) → xk [(0, 9), (83, 0), (29, 0), (31, 0), (33, 0), (35, 0), (37, 0), (39, 0), (41, 0), (43, 0), (45, 0), (47, 0), (49, 0), (51, 0), (125, 0), (66, 8), (115, 18), (71, 0), (132, 0)] hb h' → Q (some (.int r)) h')) : ∀ m : Nat, (∀ (x1 : Int32) (x2 : Int32) (h : xe_H), (1 ≤ x1.toInt ∧ x1.toInt ≤ 600) → (0 ≤ x2.toInt ∧ x2.toInt ≤ 600) → (∀ v : Int32, xl h (115, 1) = some (.inl (.int v)) → v.toInt + (-1) * u0.toInt + (-1) * x2.toInt + 0 = 0) → (x2.toInt + (-1) * x1.toInt + 0 ≤ 0) → (x1.toInt + u0.toInt + (-600) ≤ 0) → (x1.toInt + (-1) * gx1.toInt + 0 = 0) → xk [(0, 9), (83, 0), (29, 0), (31, 0), (33, 0), (35, 0), (37, 0), (39, 0), (41, 0), (43, 0), (45, 0), (47, 0), (49, 0), (51, 0), (125, 0), (66, 8), (115, 18), (71, 0), (132, 0)] hb h → (-1) * x2.toInt + 600 < (m : Int) → xw J ov (d + 6) 34 (38, [(0, .ref 115), (1, .int x1), (2, .int x2)], [], h) Q) := by
  intro m
  induction m with
  | zero =>
    intro x1 x2 h b1 b2 gh0 gh1 gh2 gh3 K hm; exfalso; omega
  | succ m ih =>
    have i0 := ih
    intro x1 x2 h b1 b2 gh0 gh1 gh2 gh3 K hm
    refine xp_115 K.1 (fun u1 u2 u3 u4 u5 u6 u7 u8 u9 u10 u11 u12 u13 bu1 bu2 bu3 bu4 bu5 bu6 bu7 bu8 bu9 bu10 bu11 bu12 bu13 A14 => ?_)
    have gh0' := gh0 _ (xl_of A14 rfl)
    refine xi_iload_n (pc' := 39) (x := x2) kc_34_38 rfl rfl ?_
    refine xi_iload_n (pc' := 40) (x := x1) kc_34_39 rfl rfl ?_
    by_cases c15 : x1.toInt ≤ x2.toInt
    · refine xi_cmt (pc' := 53) kc_34_40 rfl (xc_ge_t (X := x2.toInt) (Y := x1.toInt) rfl rfl (by omega)) ?_
      refine xi_aload_n (pc' := 54) (x := 115) kc_34_53 rfl rfl ?_
      refine xi_getfield (pc' := 57) (v := .int u2) kc_34_54 rfl rfl rfl A14 rfl ?_
      refine xi_ireturn kc_34_57 mr_34 rfl ?_
      exact kk u2 h (by omega) (fun v e => by have e2 := xl_val (u := u2) A14 rfl e; subst e2; omega) K
    · refine xi_cmf (pc' := 43) kc_34_40 rfl (xc_ge_f (X := x2.toInt) (Y := x1.toInt) rfl rfl (by omega)) ?_
      refine xi_aload_n (pc' := 44) (x := 115) kc_34_43 rfl rfl ?_
      refine xi_virtual (mj := 35) (as := []) (st1 := []) (lv0 := [(0, .ref 115)]) kc_34_44 rfl rfl rfl rfl rfl A14 (Nat.le_of_ble_eq_true rfl) (hJ _ _ _ _ (by decide)) (xm_le ml_35 rfl) rfl ?_
      refine mt_35_0 hJ hov1 hov2 (d := d) (u0 := u2) K.1 (by omega) (fun v e => by have e2 := xl_val (u := u2) A14 rfl e; subst e2; omega) (fun hh17 o19 K18 => ?_)
      have K20 := xk_tr K K18 rfl
      refine xp_115 K20.1 (fun u21 u22 u23 u24 u25 u26 u27 u28 u29 u30 u31 u32 u33 bu21 bu22 bu23 bu24 bu25 bu26 bu27 bu28 bu29 bu30 bu31 bu32 bu33 A34 => ?_)
      have e35 : u4 = u24 := xk_eqi (q := 18) K18 rfl A14 A34 rfl rfl
      subst e35
      have o19' := o19 _ (xl_of A34 rfl)
      show xw J ov (d + 6) 34 (47, [(0, .ref 115), (1, .int x1), (2, .int x2)], [], hh17) _
      refine xcps2 (α := Int32) (x2 + 1) (fun v36 ev36 => ?_)
      have zv36 : v36.toInt = (x2.toInt + 1) := by rw [← ev36]; exact (xz_add (X := x2.toInt) (Y := 1) rfl (by decide) (by omega) (by omega)).trans (by omega)
      refine xi_iinc (pc' := 50) (x := x2) (v := v36) (lv' := [(2, .int v36), (0, .ref 115), (1, .int x1)]) kc_34_47 rfl rfl ev36 rfl (xm_lt ml_34 rfl) ?_
      refine xi_goto (pc' := 38) kc_34_50 rfl ?_
      refine xw_lv (b := [(0, .ref 115), (1, .int x1), (2, .int v36)]) (lvS_cons (lvS_cons (lvS_cons (lvS_nil (show ([2, 0, 1] : List Nat).Nodup by decide)) rfl) rfl) rfl) ?_
      exact i0 x1 v36 hh17 (by omega) (by omega) (fun v e => by have e2 := xl_val (u := u22) A34 rfl e; subst e2; omega) (by first | omega | decide) (by first | omega | decide) (by first | omega | decide) K20 (by omega)
set_option maxHeartbeats 4000000 in
theorem mt_34_0 {J : xe_J} {ov : List (List Int32)} (hJ : ∀ d mj as h, mj ≠ xe_loff → J d mj as h = none) (hov1 : ov[1]? = some [10, 0, 0, 0, 0, 0]) (hov2 : ov[2]? = some [99, 30, 50, 50, 1, 99999]) {d : Nat} {Q : Option Value → xe_H → Prop} {h : xe_H} {x1 : Int32} {u0 : Int32} (T : xt h) (bgu0 : (0 ≤ u0.toInt ∧ u0.toInt ≤ 600)) (gi0 : (∀ v : Int32, xl h (115, 1) = some (.inl (.int v)) → v.toInt + (-1) * u0.toInt + 0 = 0)) (kk : (∀ (r : Int32) (h' : xe_H), ((-6) ≤ r.toInt ∧ r.toInt ≤ 600) → (∀ v : Int32, xl h' (115, 1) = some (.inl (.int v)) → ((x1.toInt < 1 ∧ r.toInt = -4 ∧ v.toInt = u0.toInt) ∨ (1 ≤ x1.toInt ∧ 600 - u0.toInt < x1.toInt ∧ r.toInt = -6 ∧ v.toInt = u0.toInt) ∨ (1 ≤ x1.toInt ∧ x1.toInt ≤ 600 - u0.toInt ∧ r.toInt = u0.toInt + x1.toInt ∧ v.toInt = u0.toInt + x1.toInt))) → xk [(0, 9), (83, 0), (29, 0), (31, 0), (33, 0), (35, 0), (37, 0), (39, 0), (41, 0), (43, 0), (45, 0), (47, 0), (49, 0), (51, 0), (125, 0), (66, 8), (115, 18), (71, 0), (132, 0)] h h' → Q (some (.int r)) h')) : xw J ov (d + 6) 34 (0, [(0, .ref 115), (1, .int x1)], [], h) Q := by
  have K : xk [(0, 9), (83, 0), (29, 0), (31, 0), (33, 0), (35, 0), (37, 0), (39, 0), (41, 0), (43, 0), (45, 0), (47, 0), (49, 0), (51, 0), (125, 0), (66, 8), (115, 18), (71, 0), (132, 0)] h h := xk_re T
  have rx1 := xc_rng x1
  refine xp_115 K.1 (fun u1 u2 u3 u4 u5 u6 u7 u8 u9 u10 u11 u12 u13 bu1 bu2 bu3 bu4 bu5 bu6 bu7 bu8 bu9 bu10 bu11 bu12 bu13 A14 => ?_)
  have gi0' := gi0 _ (xl_of A14 rfl)
  refine xi_aload_n (pc' := 1) (x := 115) kc_34_0 rfl rfl ?_
  refine xi_iconst (pc' := 2) (v := 0) kc_34_1 rfl rfl ?_
  refine xi_putfield (pc' := 5) (fs' := [.int 0, .int u2, .ref 116, .ref 117, .ref 118, .ref 119, .ref 120, .ref 121, .ref 122, .ref 123, .ref 124, .ref 125, .ref 126, .ref 127, .ref 128, .ref 129, .int u3, .ref 130, .int u4, .ref 131, .ref 132, .ref 133, .ref 134, .int u5, .ref 135, .ref 136, .ref 137, .ref 138, .ref 139, .ref 140, .ref 141, .ref 142, .int u6, .int u7, .int u8, .ref 143, .ref 144, .ref 145, .ref 146, .ref 147, .ref 148, .int u9, .ref 149, .ref 150, .ref 151, .int u10, .ref 152, .ref 153, .ref 154, .ref 155, .ref 156, .ref 157, .ref 158, .ref 159, .int u11, .ref 160, .int u12, .ref 161, .ref 162, .ref 163, .ref 164, .int u13, .ref 165, .ref 166]) kc_34_2 rfl rfl rfl A14 rfl rfl rfl (Nat.le_of_ble_eq_true rfl) rfl (fun hh16 eh15 => ?_)
  have K17 := xk_pf (k := 0) (v := 0) K (xk_wf rfl) xD_115 A14 rfl (by first | omega | decide) (by first | omega | decide) eh15 rfl
  refine xi_iload_n (pc' := 6) (x := x1) kc_34_5 rfl rfl ?_
  refine xi_iconst (pc' := 7) (v := 1) kc_34_6 rfl rfl ?_
  by_cases c18 : 1 ≤ x1.toInt
  · refine xi_cmt (pc' := 17) kc_34_7 rfl (xc_ge_t (X := x1.toInt) (Y := 1) rfl (by decide) (by omega)) ?_
    refine xi_iload_n (pc' := 18) (x := x1) kc_34_17 rfl rfl ?_
    refine xi_sipush (pc' := 21) (v := 600) kc_34_18 rfl rfl ?_
    refine xi_aload_n (pc' := 22) (x := 115) kc_34_21 rfl rfl ?_
    refine xi_getfield (pc' := 25) (v := .int u2) kc_34_22 rfl rfl rfl eh15.1 rfl ?_
    refine xcps2 (α := Int32) (600 - u2) (fun v19 ev19 => ?_)
    have zv19 : v19.toInt = ((-1) * u2.toInt + 600) := by rw [← ev19]; exact (xz_sub (X := 600) (Y := u2.toInt) (by decide) rfl (by omega) (by omega)).trans (by omega)
    refine xi_isub (pc' := 26) (v := v19) kc_34_25 rfl ev19 ?_
    by_cases c20 : x1.toInt ≤ ((-1) * u2.toInt + 600)
    · refine xi_cmt (pc' := 36) kc_34_26 rfl (xc_le_t (X := x1.toInt) (Y := ((-1) * u2.toInt + 600)) rfl zv19 (by omega)) ?_
      refine xi_iconst (pc' := 37) (v := 0) kc_34_36 rfl rfl ?_
      refine xi_istore_n (pc' := 38) (lv' := [(2, .int 0), (0, .ref 115), (1, .int x1)]) kc_34_37 rfl rfl (xm_lt ml_34 rfl) ?_
      have zc0 : (0 : Int32).toInt = 0 := by decide
      refine xw_lv (b := [(0, .ref 115), (1, .int x1), (2, .int 0)]) (lvS_cons (lvS_cons (lvS_cons (lvS_nil (show ([2, 0, 1] : List Nat).Nodup by decide)) rfl) rfl) rfl) ?_
      exact (lp_34_0 hJ hov1 hov2 (d := d) (gx1 := x1) (hb := hh16) bgu0 (fun r9 h9 b9 o90 K9 => kk r9 h9 b9 o90 (xk_tr K17 K9 rfl)) 601) x1 0 hh16 (by omega) (by omega) (fun v e => by have e2 := xl_val (u := u2) eh15.1 rfl e; subst e2; omega) (by first | omega | decide) (by first | omega | decide) (by first | omega | decide) (xk_re K17.1) (by omega)
    · refine xi_cmf (pc' := 29) kc_34_26 rfl (xc_le_f (X := x1.toInt) (Y := ((-1) * u2.toInt + 600)) rfl zv19 (by omega)) ?_
      refine xi_aload_n (pc' := 30) (x := 115) kc_34_29 rfl rfl ?_
      refine xi_bipush (pc' := 32) (v := (-6)) kc_34_30 rfl rfl ?_
      refine xi_virtual (mj := 12) (as := [.int (-6)]) (st1 := []) (lv0 := [(0, .ref 115), (1, .int (-6))]) kc_34_32 rfl rfl rfl rfl rfl eh15.1 (Nat.le_of_ble_eq_true rfl) (hJ _ _ _ _ (by decide)) (xm_le ml_12 rfl) rfl ?_
      refine xi_aload_n (pc' := 1) (x := 115) kc_12_0 rfl rfl ?_
      refine xi_getfield (pc' := 4) (v := .ref 140) kc_12_1 rfl rfl rfl eh15.1 rfl ?_
      refine xi_iload_n (pc' := 5) (x := (-6)) kc_12_4 rfl rfl ?_
      refine xi_ineg (pc' := 6) (v := 6) kc_12_5 rfl rfl ?_
      refine xi_dup2 (pc' := 7) kc_12_6 rfl ⟨rfl, rfl⟩ ?_
      refine xcps4 (xk_arr K17.1 xD_140) (fun y21 A21 hy21 ry21 => ?_)
      refine xcps4 (xj_get hy21 ry21 (i := 6) (by decide) (by decide)) (fun v22 ev22 bv22 dv22 => ?_)
      refine xi_iaload (pc' := 8) (v := v22) kc_12_7 rfl A21 (by decide) rfl (xi_in (by decide) (by rw [hy21]; decide)) ev22 ?_
      refine xi_iconst (pc' := 9) (v := 1) kc_12_8 rfl rfl ?_
      refine xcps2 (α := Int32) ((v22 : Int32) + 1) (fun v23 ev23 => ?_)
      have rv23 := xc_rng v23
      refine xi_iadd (pc' := 10) (v := v23) kc_12_9 rfl ev23 ?_
      refine xcps4 (xj_set (v := v23) hy21 ry21 6 (by first | omega | decide) (by first | omega | decide)) (fun y24 s24 hy24 ry24 => ?_)
      refine xi_iastore (pc' := 11) (x' := y24) kc_12_10 rfl A21 rfl (xi_in (by decide) (by rw [hy21]; decide)) s24 (fun hh24 eh24 => ?_)
      have K25 := xk_pa K17 (xk_wa rfl) xD_140 hy24 ry24 eh24
      refine xi_iload_n (pc' := 12) (x := (-6)) kc_12_11 rfl rfl ?_
      refine xi_ireturn kc_12_12 mr_12 rfl ?_
      show xw J ov (d + 6) 34 (35, [(0, .ref 115), (1, .int x1)], [.int (-6)], hh24) _
      refine xi_ireturn kc_34_35 mr_34 rfl ?_
      have zcm6 : ((-6) : Int32).toInt = (-6) := by decide
      have A26 := ((eh24.2.1 115 (by decide)).trans eh15.1)
      exact kk (-6) hh24 (by omega) (fun v e => by have e2 := xl_val (u := u2) A26 rfl e; subst e2; omega) K25
  · refine xi_cmf (pc' := 10) kc_34_7 rfl (xc_ge_f (X := x1.toInt) (Y := 1) rfl (by decide) (by omega)) ?_
    refine xi_aload_n (pc' := 11) (x := 115) kc_34_10 rfl rfl ?_
    refine xi_bipush (pc' := 13) (v := (-4)) kc_34_11 rfl rfl ?_
    refine xi_virtual (mj := 12) (as := [.int (-4)]) (st1 := []) (lv0 := [(0, .ref 115), (1, .int (-4))]) kc_34_13 rfl rfl rfl rfl rfl eh15.1 (Nat.le_of_ble_eq_true rfl) (hJ _ _ _ _ (by decide)) (xm_le ml_12 rfl) rfl ?_
    refine xi_aload_n (pc' := 1) (x := 115) kc_12_0 rfl rfl ?_
    refine xi_getfield (pc' := 4) (v := .ref 140) kc_12_1 rfl rfl rfl eh15.1 rfl ?_
    refine xi_iload_n (pc' := 5) (x := (-4)) kc_12_4 rfl rfl ?_
    refine xi_ineg (pc' := 6) (v := 4) kc_12_5 rfl rfl ?_
    refine xi_dup2 (pc' := 7) kc_12_6 rfl ⟨rfl, rfl⟩ ?_
    refine xcps4 (xk_arr K17.1 xD_140) (fun y27 A27 hy27 ry27 => ?_)
    refine xcps4 (xj_get hy27 ry27 (i := 4) (by decide) (by decide)) (fun v28 ev28 bv28 dv28 => ?_)
    refine xi_iaload (pc' := 8) (v := v28) kc_12_7 rfl A27 (by decide) rfl (xi_in (by decide) (by rw [hy27]; decide)) ev28 ?_
    refine xi_iconst (pc' := 9) (v := 1) kc_12_8 rfl rfl ?_
    refine xcps2 (α := Int32) ((v28 : Int32) + 1) (fun v29 ev29 => ?_)
    have rv29 := xc_rng v29
    refine xi_iadd (pc' := 10) (v := v29) kc_12_9 rfl ev29 ?_
    refine xcps4 (xj_set (v := v29) hy27 ry27 4 (by first | omega | decide) (by first | omega | decide)) (fun y30 s30 hy30 ry30 => ?_)
    refine xi_iastore (pc' := 11) (x' := y30) kc_12_10 rfl A27 rfl (xi_in (by decide) (by rw [hy27]; decide)) s30 (fun hh30 eh30 => ?_)
    have K31 := xk_pa K17 (xk_wa rfl) xD_140 hy30 ry30 eh30
    refine xi_iload_n (pc' := 12) (x := (-4)) kc_12_11 rfl rfl ?_
    refine xi_ireturn kc_12_12 mr_12 rfl ?_
    show xw J ov (d + 6) 34 (16, [(0, .ref 115), (1, .int x1)], [.int (-4)], hh30) _
    refine xi_ireturn kc_34_16 mr_34 rfl ?_
    have zcm4 : ((-4) : Int32).toInt = (-4) := by decide
    have A32 := ((eh30.2.1 115 (by decide)).trans eh15.1)
    exact kk (-4) hh30 (by omega) (fun v e => by have e2 := xl_val (u := u2) A32 rfl e; subst e2; omega) K31
set_option maxHeartbeats 4000000 in
theorem lp_44_0 {J : xe_J} {ov : List (List Int32)} (hJ : ∀ d mj as h, mj ≠ xe_loff → J d mj as h = none) (hov1 : ov[1]? = some [10, 0, 0, 0, 0, 0]) (hov2 : ov[2]? = some [99, 30, 50, 50, 1, 99999]) {d : Nat} {Q : Option Value → xe_H → Prop} {hb : xe_H} (kk : (∀ h' : xe_H, xk [(0, 9), (115, 1), (83, 0), (29, 0), (31, 0), (33, 0), (35, 0), (37, 0), (39, 0), (41, 0), (43, 0), (45, 0), (47, 0), (49, 0), (51, 0), (125, 0), (66, 8), (115, 18), (71, 0), (132, 0)] hb h' → Q none h')) : ∀ m : Nat, (∀ (x1 : Int32) (x2 : Int32) (x3 : Int32) (h : xe_H), (0 ≤ x3.toInt ∧ x3.toInt ≤ 600) → xk [(0, 9), (115, 1), (83, 0), (29, 0), (31, 0), (33, 0), (35, 0), (37, 0), (39, 0), (41, 0), (43, 0), (45, 0), (47, 0), (49, 0), (51, 0), (125, 0), (66, 8), (115, 18), (71, 0), (132, 0)] hb h → (-1) * x3.toInt + 600 < (m : Int) → xw J ov (d + 1) 44 (6, [(0, .ref 115), (1, .int x1), (2, .int x2), (3, .int x3)], [], h) Q) := by
  intro m
  induction m with
  | zero =>
    intro x1 x2 x3 h b3 K hm; have rx1 := xc_rng x1; have rx2 := xc_rng x2; exfalso; omega
  | succ m ih =>
    have i0 := ih
    intro x1 x2 x3 h b3 K hm
    have rx1 := xc_rng x1
    have rx2 := xc_rng x2
    refine xi_iload_n (pc' := 7) (x := x3) kc_44_6 rfl rfl ?_
    refine xi_sipush (pc' := 10) (v := 600) kc_44_7 rfl rfl ?_
    by_cases c1 : 600 ≤ x3.toInt
    · refine xi_cmt (pc' := 77) kc_44_10 rfl (xc_ge_t (X := x3.toInt) (Y := 600) rfl (by decide) (by omega)) ?_
      refine xi_return kc_44_77 mr_44 ?_
      exact kk h K
    · refine xi_cmf (pc' := 13) kc_44_10 rfl (xc_ge_f (X := x3.toInt) (Y := 600) rfl (by decide) (by omega)) ?_
      refine xi_aload_n (pc' := 14) (x := 115) kc_44_13 rfl rfl ?_
      refine xp_115 K.1 (fun u2 u3 u4 u5 u6 u7 u8 u9 u10 u11 u12 u13 u14 bu2 bu3 bu4 bu5 bu6 bu7 bu8 bu9 bu10 bu11 bu12 bu13 bu14 A15 => ?_)
      refine xi_getfield (pc' := 17) (v := .ref 123) kc_44_14 rfl rfl rfl A15 rfl ?_
      refine xi_iload_n (pc' := 18) (x := x3) kc_44_17 rfl rfl ?_
      refine xcps4 (xk_arr K.1 xD_123) (fun y16 A16 hy16 ry16 => ?_)
      refine xcps4 (xj_get hy16 ry16 (i := x3) (by omega) (by omega)) (fun v17 ev17 bv17 dv17 => ?_)
      refine xi_iaload (pc' := 19) (v := v17) kc_44_18 rfl A16 (by decide) rfl (xi_in (by omega) (by rw [hy16]; omega)) ev17 ?_
      refine xi_bipush (pc' := 21) (v := 99) kc_44_19 rfl rfl ?_
      by_cases c18 : v17.toInt = 99
      · refine xi_cmf (pc' := 24) kc_44_21 rfl (xc_ne_f (X := v17.toInt) (Y := 99) rfl (by decide) (by omega)) ?_
        refine xi_iload_n (pc' := 25) (x := x1) kc_44_24 rfl rfl ?_
        refine xi_goto (pc' := 34) kc_44_25 rfl ?_
        refine xi_istore_n (pc' := 35) (lv' := [(1, .int x1), (0, .ref 115), (2, .int x2), (3, .int x3)]) kc_44_34 rfl rfl (xm_lt ml_44 rfl) ?_
        refine xi_aload_n (pc' := 36) (x := 115) kc_44_35 rfl rfl ?_
        refine xi_getfield (pc' := 39) (v := .ref 124) kc_44_36 rfl rfl rfl A15 rfl ?_
        refine xi_iload_n (pc' := 40) (x := x3) kc_44_39 rfl rfl ?_
        refine xcps4 (xk_arr K.1 xD_124) (fun y19 A19 hy19 ry19 => ?_)
        refine xcps4 (xj_get hy19 ry19 (i := x3) (by omega) (by omega)) (fun v20 ev20 bv20 dv20 => ?_)
        refine xi_iaload (pc' := 41) (v := v20) kc_44_40 rfl A19 (by decide) rfl (xi_in (by omega) (by rw [hy19]; omega)) ev20 ?_
        refine xi_bipush (pc' := 43) (v := 99) kc_44_41 rfl rfl ?_
        by_cases c21 : v20.toInt = 99
        · refine xi_cmf (pc' := 46) kc_44_43 rfl (xc_ne_f (X := v20.toInt) (Y := 99) rfl (by decide) (by omega)) ?_
          refine xi_iload_n (pc' := 47) (x := x2) kc_44_46 rfl rfl ?_
          refine xi_goto (pc' := 56) kc_44_47 rfl ?_
          refine xi_istore_n (pc' := 57) (lv' := [(2, .int x2), (1, .int x1), (0, .ref 115), (3, .int x3)]) kc_44_56 rfl rfl (xm_lt ml_44 rfl) ?_
          refine xi_aload_n (pc' := 58) (x := 115) kc_44_57 rfl rfl ?_
          refine xi_getfield (pc' := 61) (v := .ref 150) kc_44_58 rfl rfl rfl A15 rfl ?_
          refine xi_iload_n (pc' := 62) (x := x3) kc_44_61 rfl rfl ?_
          refine xi_iload_n (pc' := 63) (x := x1) kc_44_62 rfl rfl ?_
          refine xcps4 (xk_arr K.1 xD_150) (fun y22 A22 hy22 ry22 => ?_)
          refine xcps4 (xj_set (v := x1) hy22 ry22 x3 (by first | omega | decide) (by first | omega | decide)) (fun y23 s23 hy23 ry23 => ?_)
          refine xi_iastore (pc' := 64) (x' := y23) kc_44_63 rfl A22 rfl (xi_in (by omega) (by rw [hy22]; omega)) s23 (fun hh23 eh23 => ?_)
          have K24 := xk_pa K (xk_wa rfl) xD_150 hy23 ry23 eh23
          refine xi_aload_n (pc' := 65) (x := 115) kc_44_64 rfl rfl ?_
          have A25 := ((eh23.2.1 115 (by decide)).trans A15)
          refine xi_getfield (pc' := 68) (v := .ref 151) kc_44_65 rfl rfl rfl A25 rfl ?_
          refine xi_iload_n (pc' := 69) (x := x3) kc_44_68 rfl rfl ?_
          refine xi_iload_n (pc' := 70) (x := x2) kc_44_69 rfl rfl ?_
          refine xcps4 (xk_arr K24.1 xD_151) (fun y26 A26 hy26 ry26 => ?_)
          refine xcps4 (xj_set (v := x2) hy26 ry26 x3 (by first | omega | decide) (by first | omega | decide)) (fun y27 s27 hy27 ry27 => ?_)
          refine xi_iastore (pc' := 71) (x' := y27) kc_44_70 rfl A26 rfl (xi_in (by omega) (by rw [hy26]; omega)) s27 (fun hh27 eh27 => ?_)
          have K28 := xk_pa K24 (xk_wa rfl) xD_151 hy27 ry27 eh27
          refine xcps2 (α := Int32) (x3 + 1) (fun v29 ev29 => ?_)
          have zv29 : v29.toInt = (x3.toInt + 1) := by rw [← ev29]; exact (xz_add (X := x3.toInt) (Y := 1) rfl (by decide) (by omega) (by omega)).trans (by omega)
          refine xi_iinc (pc' := 74) (x := x3) (v := v29) (lv' := [(3, .int v29), (2, .int x2), (1, .int x1), (0, .ref 115)]) kc_44_71 rfl rfl ev29 rfl (xm_lt ml_44 rfl) ?_
          refine xi_goto (pc' := 6) kc_44_74 rfl ?_
          refine xw_lv (b := [(0, .ref 115), (1, .int x1), (2, .int x2), (3, .int v29)]) (lvS_cons (lvS_cons (lvS_cons (lvS_cons (lvS_nil (show ([3, 2, 1, 0] : List Nat).Nodup by decide)) rfl) rfl) rfl) rfl) ?_
          exact i0 x1 x2 v29 hh27 (by omega) K28 (by omega)
        · refine xi_cmt (pc' := 50) kc_44_43 rfl (xc_ne_t (X := v20.toInt) (Y := 99) rfl (by decide) (by omega)) ?_
          refine xi_aload_n (pc' := 51) (x := 115) kc_44_50 rfl rfl ?_
          refine xi_getfield (pc' := 54) (v := .ref 124) kc_44_51 rfl rfl rfl A15 rfl ?_
          refine xi_iload_n (pc' := 55) (x := x3) kc_44_54 rfl rfl ?_
          refine xi_iaload (pc' := 56) (v := v20) kc_44_55 rfl A19 (by decide) rfl (xi_in (by omega) (by rw [hy19]; omega)) ev20 ?_
          refine xi_istore_n (pc' := 57) (lv' := [(2, .int v20), (1, .int x1), (0, .ref 115), (3, .int x3)]) kc_44_56 rfl rfl (xm_lt ml_44 rfl) ?_
          refine xi_aload_n (pc' := 58) (x := 115) kc_44_57 rfl rfl ?_
          refine xi_getfield (pc' := 61) (v := .ref 150) kc_44_58 rfl rfl rfl A15 rfl ?_
          refine xi_iload_n (pc' := 62) (x := x3) kc_44_61 rfl rfl ?_
          refine xi_iload_n (pc' := 63) (x := x1) kc_44_62 rfl rfl ?_
          refine xcps4 (xk_arr K.1 xD_150) (fun y30 A30 hy30 ry30 => ?_)
          refine xcps4 (xj_set (v := x1) hy30 ry30 x3 (by first | omega | decide) (by first | omega | decide)) (fun y31 s31 hy31 ry31 => ?_)
          refine xi_iastore (pc' := 64) (x' := y31) kc_44_63 rfl A30 rfl (xi_in (by omega) (by rw [hy30]; omega)) s31 (fun hh31 eh31 => ?_)
          have K32 := xk_pa K (xk_wa rfl) xD_150 hy31 ry31 eh31
          refine xi_aload_n (pc' := 65) (x := 115) kc_44_64 rfl rfl ?_
          have A33 := ((eh31.2.1 115 (by decide)).trans A15)
          refine xi_getfield (pc' := 68) (v := .ref 151) kc_44_65 rfl rfl rfl A33 rfl ?_
          refine xi_iload_n (pc' := 69) (x := x3) kc_44_68 rfl rfl ?_
          refine xi_iload_n (pc' := 70) (x := v20) kc_44_69 rfl rfl ?_
          refine xcps4 (xk_arr K32.1 xD_151) (fun y34 A34 hy34 ry34 => ?_)
          refine xcps4 (xj_set (v := v20) hy34 ry34 x3 (by first | omega | decide) (by first | omega | decide)) (fun y35 s35 hy35 ry35 => ?_)
          refine xi_iastore (pc' := 71) (x' := y35) kc_44_70 rfl A34 rfl (xi_in (by omega) (by rw [hy34]; omega)) s35 (fun hh35 eh35 => ?_)
          have K36 := xk_pa K32 (xk_wa rfl) xD_151 hy35 ry35 eh35
          refine xcps2 (α := Int32) (x3 + 1) (fun v37 ev37 => ?_)
          have zv37 : v37.toInt = (x3.toInt + 1) := by rw [← ev37]; exact (xz_add (X := x3.toInt) (Y := 1) rfl (by decide) (by omega) (by omega)).trans (by omega)
          refine xi_iinc (pc' := 74) (x := x3) (v := v37) (lv' := [(3, .int v37), (2, .int v20), (1, .int x1), (0, .ref 115)]) kc_44_71 rfl rfl ev37 rfl (xm_lt ml_44 rfl) ?_
          refine xi_goto (pc' := 6) kc_44_74 rfl ?_
          refine xw_lv (b := [(0, .ref 115), (1, .int x1), (2, .int v20), (3, .int v37)]) (lvS_cons (lvS_cons (lvS_cons (lvS_cons (lvS_nil (show ([3, 2, 1, 0] : List Nat).Nodup by decide)) rfl) rfl) rfl) rfl) ?_
          exact i0 x1 v20 v37 hh35 (by omega) K36 (by omega)
      · refine xi_cmt (pc' := 28) kc_44_21 rfl (xc_ne_t (X := v17.toInt) (Y := 99) rfl (by decide) (by omega)) ?_
        refine xi_aload_n (pc' := 29) (x := 115) kc_44_28 rfl rfl ?_
        refine xi_getfield (pc' := 32) (v := .ref 123) kc_44_29 rfl rfl rfl A15 rfl ?_
        refine xi_iload_n (pc' := 33) (x := x3) kc_44_32 rfl rfl ?_
        refine xi_iaload (pc' := 34) (v := v17) kc_44_33 rfl A16 (by decide) rfl (xi_in (by omega) (by rw [hy16]; omega)) ev17 ?_
        refine xi_istore_n (pc' := 35) (lv' := [(1, .int v17), (0, .ref 115), (2, .int x2), (3, .int x3)]) kc_44_34 rfl rfl (xm_lt ml_44 rfl) ?_
        refine xi_aload_n (pc' := 36) (x := 115) kc_44_35 rfl rfl ?_
        refine xi_getfield (pc' := 39) (v := .ref 124) kc_44_36 rfl rfl rfl A15 rfl ?_
        refine xi_iload_n (pc' := 40) (x := x3) kc_44_39 rfl rfl ?_
        refine xcps4 (xk_arr K.1 xD_124) (fun y38 A38 hy38 ry38 => ?_)
        refine xcps4 (xj_get hy38 ry38 (i := x3) (by omega) (by omega)) (fun v39 ev39 bv39 dv39 => ?_)
        refine xi_iaload (pc' := 41) (v := v39) kc_44_40 rfl A38 (by decide) rfl (xi_in (by omega) (by rw [hy38]; omega)) ev39 ?_
        refine xi_bipush (pc' := 43) (v := 99) kc_44_41 rfl rfl ?_
        by_cases c40 : v39.toInt = 99
        · refine xi_cmf (pc' := 46) kc_44_43 rfl (xc_ne_f (X := v39.toInt) (Y := 99) rfl (by decide) (by omega)) ?_
          refine xi_iload_n (pc' := 47) (x := x2) kc_44_46 rfl rfl ?_
          refine xi_goto (pc' := 56) kc_44_47 rfl ?_
          refine xi_istore_n (pc' := 57) (lv' := [(2, .int x2), (1, .int v17), (0, .ref 115), (3, .int x3)]) kc_44_56 rfl rfl (xm_lt ml_44 rfl) ?_
          refine xi_aload_n (pc' := 58) (x := 115) kc_44_57 rfl rfl ?_
          refine xi_getfield (pc' := 61) (v := .ref 150) kc_44_58 rfl rfl rfl A15 rfl ?_
          refine xi_iload_n (pc' := 62) (x := x3) kc_44_61 rfl rfl ?_
          refine xi_iload_n (pc' := 63) (x := v17) kc_44_62 rfl rfl ?_
          refine xcps4 (xk_arr K.1 xD_150) (fun y41 A41 hy41 ry41 => ?_)
          refine xcps4 (xj_set (v := v17) hy41 ry41 x3 (by first | omega | decide) (by first | omega | decide)) (fun y42 s42 hy42 ry42 => ?_)
          refine xi_iastore (pc' := 64) (x' := y42) kc_44_63 rfl A41 rfl (xi_in (by omega) (by rw [hy41]; omega)) s42 (fun hh42 eh42 => ?_)
          have K43 := xk_pa K (xk_wa rfl) xD_150 hy42 ry42 eh42
          refine xi_aload_n (pc' := 65) (x := 115) kc_44_64 rfl rfl ?_
          have A44 := ((eh42.2.1 115 (by decide)).trans A15)
          refine xi_getfield (pc' := 68) (v := .ref 151) kc_44_65 rfl rfl rfl A44 rfl ?_
          refine xi_iload_n (pc' := 69) (x := x3) kc_44_68 rfl rfl ?_
          refine xi_iload_n (pc' := 70) (x := x2) kc_44_69 rfl rfl ?_
          refine xcps4 (xk_arr K43.1 xD_151) (fun y45 A45 hy45 ry45 => ?_)
          refine xcps4 (xj_set (v := x2) hy45 ry45 x3 (by first | omega | decide) (by first | omega | decide)) (fun y46 s46 hy46 ry46 => ?_)
          refine xi_iastore (pc' := 71) (x' := y46) kc_44_70 rfl A45 rfl (xi_in (by omega) (by rw [hy45]; omega)) s46 (fun hh46 eh46 => ?_)
          have K47 := xk_pa K43 (xk_wa rfl) xD_151 hy46 ry46 eh46
          refine xcps2 (α := Int32) (x3 + 1) (fun v48 ev48 => ?_)
          have zv48 : v48.toInt = (x3.toInt + 1) := by rw [← ev48]; exact (xz_add (X := x3.toInt) (Y := 1) rfl (by decide) (by omega) (by omega)).trans (by omega)
          refine xi_iinc (pc' := 74) (x := x3) (v := v48) (lv' := [(3, .int v48), (2, .int x2), (1, .int v17), (0, .ref 115)]) kc_44_71 rfl rfl ev48 rfl (xm_lt ml_44 rfl) ?_
          refine xi_goto (pc' := 6) kc_44_74 rfl ?_
          refine xw_lv (b := [(0, .ref 115), (1, .int v17), (2, .int x2), (3, .int v48)]) (lvS_cons (lvS_cons (lvS_cons (lvS_cons (lvS_nil (show ([3, 2, 1, 0] : List Nat).Nodup by decide)) rfl) rfl) rfl) rfl) ?_
          exact i0 v17 x2 v48 hh46 (by omega) K47 (by omega)
        · refine xi_cmt (pc' := 50) kc_44_43 rfl (xc_ne_t (X := v39.toInt) (Y := 99) rfl (by decide) (by omega)) ?_
          refine xi_aload_n (pc' := 51) (x := 115) kc_44_50 rfl rfl ?_
          refine xi_getfield (pc' := 54) (v := .ref 124) kc_44_51 rfl rfl rfl A15 rfl ?_
          refine xi_iload_n (pc' := 55) (x := x3) kc_44_54 rfl rfl ?_
          refine xi_iaload (pc' := 56) (v := v39) kc_44_55 rfl A38 (by decide) rfl (xi_in (by omega) (by rw [hy38]; omega)) ev39 ?_
          refine xi_istore_n (pc' := 57) (lv' := [(2, .int v39), (1, .int v17), (0, .ref 115), (3, .int x3)]) kc_44_56 rfl rfl (xm_lt ml_44 rfl) ?_
          refine xi_aload_n (pc' := 58) (x := 115) kc_44_57 rfl rfl ?_
          refine xi_getfield (pc' := 61) (v := .ref 150) kc_44_58 rfl rfl rfl A15 rfl ?_
          refine xi_iload_n (pc' := 62) (x := x3) kc_44_61 rfl rfl ?_
          refine xi_iload_n (pc' := 63) (x := v17) kc_44_62 rfl rfl ?_
          refine xcps4 (xk_arr K.1 xD_150) (fun y49 A49 hy49 ry49 => ?_)
          refine xcps4 (xj_set (v := v17) hy49 ry49 x3 (by first | omega | decide) (by first | omega | decide)) (fun y50 s50 hy50 ry50 => ?_)
          refine xi_iastore (pc' := 64) (x' := y50) kc_44_63 rfl A49 rfl (xi_in (by omega) (by rw [hy49]; omega)) s50 (fun hh50 eh50 => ?_)
          have K51 := xk_pa K (xk_wa rfl) xD_150 hy50 ry50 eh50
          refine xi_aload_n (pc' := 65) (x := 115) kc_44_64 rfl rfl ?_
          have A52 := ((eh50.2.1 115 (by decide)).trans A15)
          refine xi_getfield (pc' := 68) (v := .ref 151) kc_44_65 rfl rfl rfl A52 rfl ?_
          refine xi_iload_n (pc' := 69) (x := x3) kc_44_68 rfl rfl ?_
          refine xi_iload_n (pc' := 70) (x := v39) kc_44_69 rfl rfl ?_
          refine xcps4 (xk_arr K51.1 xD_151) (fun y53 A53 hy53 ry53 => ?_)
          refine xcps4 (xj_set (v := v39) hy53 ry53 x3 (by first | omega | decide) (by first | omega | decide)) (fun y54 s54 hy54 ry54 => ?_)
          refine xi_iastore (pc' := 71) (x' := y54) kc_44_70 rfl A53 rfl (xi_in (by omega) (by rw [hy53]; omega)) s54 (fun hh54 eh54 => ?_)
          have K55 := xk_pa K51 (xk_wa rfl) xD_151 hy54 ry54 eh54
          refine xcps2 (α := Int32) (x3 + 1) (fun v56 ev56 => ?_)
          have zv56 : v56.toInt = (x3.toInt + 1) := by rw [← ev56]; exact (xz_add (X := x3.toInt) (Y := 1) rfl (by decide) (by omega) (by omega)).trans (by omega)
          refine xi_iinc (pc' := 74) (x := x3) (v := v56) (lv' := [(3, .int v56), (2, .int v39), (1, .int v17), (0, .ref 115)]) kc_44_71 rfl rfl ev56 rfl (xm_lt ml_44 rfl) ?_
          refine xi_goto (pc' := 6) kc_44_74 rfl ?_
          refine xw_lv (b := [(0, .ref 115), (1, .int v17), (2, .int v39), (3, .int v56)]) (lvS_cons (lvS_cons (lvS_cons (lvS_cons (lvS_nil (show ([3, 2, 1, 0] : List Nat).Nodup by decide)) rfl) rfl) rfl) rfl) ?_
          exact i0 v17 v39 v56 hh54 (by omega) K55 (by omega)
set_option maxHeartbeats 4000000 in
theorem mt_44_0 {J : xe_J} {ov : List (List Int32)} (hJ : ∀ d mj as h, mj ≠ xe_loff → J d mj as h = none) (hov1 : ov[1]? = some [10, 0, 0, 0, 0, 0]) (hov2 : ov[2]? = some [99, 30, 50, 50, 1, 99999]) {d : Nat} {Q : Option Value → xe_H → Prop} {h : xe_H} (T : xt h) (kk : (∀ h' : xe_H, xk [(0, 9), (115, 1), (83, 0), (29, 0), (31, 0), (33, 0), (35, 0), (37, 0), (39, 0), (41, 0), (43, 0), (45, 0), (47, 0), (49, 0), (51, 0), (125, 0), (66, 8), (115, 18), (71, 0), (132, 0)] h h' → Q none h')) : xw J ov (d + 1) 44 (0, [(0, .ref 115)], [], h) Q := by
  have K : xk [(0, 9), (115, 1), (83, 0), (29, 0), (31, 0), (33, 0), (35, 0), (37, 0), (39, 0), (41, 0), (43, 0), (45, 0), (47, 0), (49, 0), (51, 0), (125, 0), (66, 8), (115, 18), (71, 0), (132, 0)] h h := xk_re T
  refine xi_iconst (pc' := 1) (v := 5) kc_44_0 rfl rfl ?_
  refine xi_istore_n (pc' := 2) (lv' := [(1, .int 5), (0, .ref 115)]) kc_44_1 rfl rfl (xm_lt ml_44 rfl) ?_
  refine xi_iconst (pc' := 3) (v := 0) kc_44_2 rfl rfl ?_
  refine xi_istore_n (pc' := 4) (lv' := [(2, .int 0), (1, .int 5), (0, .ref 115)]) kc_44_3 rfl rfl (xm_lt ml_44 rfl) ?_
  refine xi_iconst (pc' := 5) (v := 0) kc_44_4 rfl rfl ?_
  refine xi_istore_n (pc' := 6) (lv' := [(3, .int 0), (2, .int 0), (1, .int 5), (0, .ref 115)]) kc_44_5 rfl rfl (xm_lt ml_44 rfl) ?_
  have zc0 : (0 : Int32).toInt = 0 := by decide
  have zc5 : (5 : Int32).toInt = 5 := by decide
  refine xw_lv (b := [(0, .ref 115), (1, .int 5), (2, .int 0), (3, .int 0)]) (lvS_cons (lvS_cons (lvS_cons (lvS_cons (lvS_nil (show ([3, 2, 1, 0] : List Nat).Nodup by decide)) rfl) rfl) rfl) rfl) ?_
  exact (lp_44_0 hJ hov1 hov2 (d := d) (hb := h) (fun h9 K9 => kk h9 (xk_tr K K9 rfl)) 601) 5 0 0 h (by omega) (xk_re K.1) (by omega)
set_option maxHeartbeats 4000000 in
theorem lp_45_0 {J : xe_J} {ov : List (List Int32)} (hJ : ∀ d mj as h, mj ≠ xe_loff → J d mj as h = none) (hov1 : ov[1]? = some [10, 0, 0, 0, 0, 0]) (hov2 : ov[2]? = some [99, 30, 50, 50, 1, 99999]) {d : Nat} {Q : Option Value → xe_H → Prop} {hb : xe_H} (kk : (∀ (r : Int64) (h' : xe_H), xk [(0, 9), (115, 1), (83, 0), (29, 0), (31, 0), (33, 0), (35, 0), (37, 0), (39, 0), (41, 0), (43, 0), (45, 0), (47, 0), (49, 0), (51, 0), (125, 0), (66, 8), (115, 18), (71, 0), (132, 0)] hb h' → Q (some (.long r)) h')) : ∀ m : Nat, (∀ (x1 : Int32) (w2 : Int64) (x4 : Int32) (x5 : Int32) (h : xe_H), (0 ≤ x1.toInt ∧ x1.toInt ≤ 63) → (0 ≤ x4.toInt ∧ x4.toInt ≤ 0) → (0 ≤ x5.toInt ∧ x5.toInt ≤ 6) → xk [(0, 9), (115, 1), (83, 0), (29, 0), (31, 0), (33, 0), (35, 0), (37, 0), (39, 0), (41, 0), (43, 0), (45, 0), (47, 0), (49, 0), (51, 0), (125, 0), (66, 8), (115, 18), (71, 0), (132, 0)] hb h → (-1) * x5.toInt + 37343 < (m : Int) → xw J ov (d + 5) 45 (8, [(0, .ref 115), (1, .int x1), (2, .long w2), (4, .int x4), (5, .int x5)], [], h) Q) ∧ (∀ (x1 : Int32) (w2 : Int64) (x4 : Int32) (x5 : Int32) (h : xe_H), (0 ≤ x1.toInt ∧ x1.toInt ≤ 63) → (0 ≤ x4.toInt ∧ x4.toInt ≤ 0) → (0 ≤ x5.toInt ∧ x5.toInt ≤ 12) → xk [(0, 9), (115, 1), (83, 0), (29, 0), (31, 0), (33, 0), (35, 0), (37, 0), (39, 0), (41, 0), (43, 0), (45, 0), (47, 0), (49, 0), (51, 0), (125, 0), (66, 8), (115, 18), (71, 0), (132, 0)] hb h → (-1) * x5.toInt + 37336 < (m : Int) → xw J ov (d + 5) 45 (32, [(0, .ref 115), (1, .int x1), (2, .long w2), (4, .int x4), (5, .int x5)], [], h) Q) ∧ (∀ (x1 : Int32) (w2 : Int64) (x4 : Int32) (x5 : Int32) (h : xe_H), (0 ≤ x1.toInt ∧ x1.toInt ≤ 63) → (0 ≤ x4.toInt ∧ x4.toInt ≤ 60) → (0 ≤ x5.toInt ∧ x5.toInt ≤ 601) → xk [(0, 9), (115, 1), (83, 0), (29, 0), (31, 0), (33, 0), (35, 0), (37, 0), (39, 0), (41, 0), (43, 0), (45, 0), (47, 0), (49, 0), (51, 0), (125, 0), (66, 8), (115, 18), (71, 0), (132, 0)] hb h → (-62) * x5.toInt + 37323 < (m : Int) → xw J ov (d + 5) 45 (56, [(0, .ref 115), (1, .int x1), (2, .long w2), (4, .int x4), (5, .int x5)], [], h) Q) ∧ (∀ (x1 : Int32) (w2 : Int64) (x4 : Int32) (x5 : Int32) (h : xe_H), (0 ≤ x1.toInt ∧ x1.toInt ≤ 63) → (0 ≤ x4.toInt ∧ x4.toInt ≤ 60) → (0 ≤ x5.toInt ∧ x5.toInt ≤ 600) → xk [(0, 9), (115, 1), (83, 0), (29, 0), (31, 0), (33, 0), (35, 0), (37, 0), (39, 0), (41, 0), (43, 0), (45, 0), (47, 0), (49, 0), (51, 0), (125, 0), (66, 8), (115, 18), (71, 0), (132, 0)] hb h → (-62) * x5.toInt + (-1) * x4.toInt + 37322 < (m : Int) → xw J ov (d + 5) 45 (65, [(0, .ref 115), (1, .int x1), (2, .long w2), (4, .int x4), (5, .int x5)], [], h) Q) := by
  intro m
  induction m with
  | zero =>
    refine ⟨?_, ?_, ?_, ?_⟩
    · intro x1 w2 x4 x5 h b1 b4 b5 K hm; exfalso; omega
    · intro x1 w2 x4 x5 h b1 b4 b5 K hm; exfalso; omega
    · intro x1 w2 x4 x5 h b1 b4 b5 K hm; exfalso; omega
    · intro x1 w2 x4 x5 h b1 b4 b5 K hm; exfalso; omega
  | succ m ih =>
    obtain ⟨i0, i1, i2, i3⟩ := ih
    refine ⟨?_, ?_, ?_, ?_⟩
    · intro x1 w2 x4 x5 h b1 b4 b5 K hm
      refine xi_iload (pc' := 10) (x := x5) kc_45_8 rfl rfl ?_
      refine xi_bipush (pc' := 12) (v := 6) kc_45_10 rfl rfl ?_
      by_cases c1 : 6 ≤ x5.toInt
      · refine xi_cmt (pc' := 29) kc_45_12 rfl (xc_ge_t (X := x5.toInt) (Y := 6) rfl (by decide) (by omega)) ?_
        refine xi_iconst (pc' := 30) (v := 0) kc_45_29 rfl rfl ?_
        refine xi_istore (pc' := 32) (lv' := [(5, .int 0), (0, .ref 115), (1, .int x1), (2, .long w2), (4, .int x4)]) kc_45_30 rfl rfl (xm_lt ml_45 rfl) ?_
        have zc0 : (0 : Int32).toInt = 0 := by decide
        refine xw_lv (b := [(0, .ref 115), (1, .int x1), (2, .long w2), (4, .int x4), (5, .int 0)]) (lvS_cons (lvS_cons (lvS_cons (lvS_cons (lvS_cons (lvS_nil (show ([5, 0, 1, 2, 4] : List Nat).Nodup by decide)) rfl) rfl) rfl) rfl) rfl) ?_
        exact i1 x1 w2 x4 0 h (by omega) (by omega) (by omega) K (by omega)
      · refine xi_cmf (pc' := 15) kc_45_12 rfl (xc_ge_f (X := x5.toInt) (Y := 6) rfl (by decide) (by omega)) ?_
        refine xi_aload_n (pc' := 16) (x := 115) kc_45_15 rfl rfl ?_
        refine xp_115 K.1 (fun u2 u3 u4 u5 u6 u7 u8 u9 u10 u11 u12 u13 u14 bu2 bu3 bu4 bu5 bu6 bu7 bu8 bu9 bu10 bu11 bu12 bu13 bu14 A15 => ?_)
        refine xi_getfield (pc' := 19) (v := .ref 141) kc_45_16 rfl rfl rfl A15 rfl ?_
        refine xi_iload (pc' := 21) (x := x5) kc_45_19 rfl rfl ?_
        refine xi_iconst (pc' := 22) (v := 0) kc_45_21 rfl rfl ?_
        refine xcps4 (xk_arr K.1 xD_141) (fun y16 A16 hy16 ry16 => ?_)
        refine xcps4 (xj_set (v := 0) hy16 ry16 x5 (by first | omega | decide) (by first | omega | decide)) (fun y17 s17 hy17 ry17 => ?_)
        refine xi_iastore (pc' := 23) (x' := y17) kc_45_22 rfl A16 rfl (xi_in (by omega) (by rw [hy16]; omega)) s17 (fun hh17 eh17 => ?_)
        have K18 := xk_pa K (xk_wa rfl) xD_141 hy17 ry17 eh17
        refine xcps2 (α := Int32) (x5 + 1) (fun v19 ev19 => ?_)
        have zv19 : v19.toInt = (x5.toInt + 1) := by rw [← ev19]; exact (xz_add (X := x5.toInt) (Y := 1) rfl (by decide) (by omega) (by omega)).trans (by omega)
        refine xi_iinc (pc' := 26) (x := x5) (v := v19) (lv' := [(5, .int v19), (0, .ref 115), (1, .int x1), (2, .long w2), (4, .int x4)]) kc_45_23 rfl rfl ev19 rfl (xm_lt ml_45 rfl) ?_
        refine xi_goto (pc' := 8) kc_45_26 rfl ?_
        refine xw_lv (b := [(0, .ref 115), (1, .int x1), (2, .long w2), (4, .int x4), (5, .int v19)]) (lvS_cons (lvS_cons (lvS_cons (lvS_cons (lvS_cons (lvS_nil (show ([5, 0, 1, 2, 4] : List Nat).Nodup by decide)) rfl) rfl) rfl) rfl) rfl) ?_
        exact i0 x1 w2 x4 v19 hh17 (by omega) (by omega) (by omega) K18 (by omega)
    · intro x1 w2 x4 x5 h b1 b4 b5 K hm
      refine xi_iload (pc' := 34) (x := x5) kc_45_32 rfl rfl ?_
      refine xi_bipush (pc' := 36) (v := 12) kc_45_34 rfl rfl ?_
      by_cases c1 : 12 ≤ x5.toInt
      · refine xi_cmt (pc' := 53) kc_45_36 rfl (xc_ge_t (X := x5.toInt) (Y := 12) rfl (by decide) (by omega)) ?_
        refine xi_iconst (pc' := 54) (v := 0) kc_45_53 rfl rfl ?_
        refine xi_istore (pc' := 56) (lv' := [(5, .int 0), (0, .ref 115), (1, .int x1), (2, .long w2), (4, .int x4)]) kc_45_54 rfl rfl (xm_lt ml_45 rfl) ?_
        have zc0 : (0 : Int32).toInt = 0 := by decide
        refine xw_lv (b := [(0, .ref 115), (1, .int x1), (2, .long w2), (4, .int x4), (5, .int 0)]) (lvS_cons (lvS_cons (lvS_cons (lvS_cons (lvS_cons (lvS_nil (show ([5, 0, 1, 2, 4] : List Nat).Nodup by decide)) rfl) rfl) rfl) rfl) rfl) ?_
        exact i2 x1 w2 x4 0 h (by omega) (by omega) (by omega) K (by omega)
      · refine xi_cmf (pc' := 39) kc_45_36 rfl (xc_ge_f (X := x5.toInt) (Y := 12) rfl (by decide) (by omega)) ?_
        refine xi_aload_n (pc' := 40) (x := 115) kc_45_39 rfl rfl ?_
        refine xp_115 K.1 (fun u2 u3 u4 u5 u6 u7 u8 u9 u10 u11 u12 u13 u14 bu2 bu3 bu4 bu5 bu6 bu7 bu8 bu9 bu10 bu11 bu12 bu13 bu14 A15 => ?_)
        refine xi_getfield (pc' := 43) (v := .ref 142) kc_45_40 rfl rfl rfl A15 rfl ?_
        refine xi_iload (pc' := 45) (x := x5) kc_45_43 rfl rfl ?_
        refine xi_iconst (pc' := 46) (v := 0) kc_45_45 rfl rfl ?_
        refine xcps4 (xk_arr K.1 xD_142) (fun y16 A16 hy16 ry16 => ?_)
        refine xcps4 (xj_set (v := 0) hy16 ry16 x5 (by first | omega | decide) (by first | omega | decide)) (fun y17 s17 hy17 ry17 => ?_)
        refine xi_iastore (pc' := 47) (x' := y17) kc_45_46 rfl A16 rfl (xi_in (by omega) (by rw [hy16]; omega)) s17 (fun hh17 eh17 => ?_)
        have K18 := xk_pa K (xk_wa rfl) xD_142 hy17 ry17 eh17
        refine xcps2 (α := Int32) (x5 + 1) (fun v19 ev19 => ?_)
        have zv19 : v19.toInt = (x5.toInt + 1) := by rw [← ev19]; exact (xz_add (X := x5.toInt) (Y := 1) rfl (by decide) (by omega) (by omega)).trans (by omega)
        refine xi_iinc (pc' := 50) (x := x5) (v := v19) (lv' := [(5, .int v19), (0, .ref 115), (1, .int x1), (2, .long w2), (4, .int x4)]) kc_45_47 rfl rfl ev19 rfl (xm_lt ml_45 rfl) ?_
        refine xi_goto (pc' := 32) kc_45_50 rfl ?_
        refine xw_lv (b := [(0, .ref 115), (1, .int x1), (2, .long w2), (4, .int x4), (5, .int v19)]) (lvS_cons (lvS_cons (lvS_cons (lvS_cons (lvS_cons (lvS_nil (show ([5, 0, 1, 2, 4] : List Nat).Nodup by decide)) rfl) rfl) rfl) rfl) rfl) ?_
        exact i1 x1 w2 x4 v19 hh17 (by omega) (by omega) (by omega) K18 (by omega)
    · intro x1 w2 x4 x5 h b1 b4 b5 K hm
      refine xi_iload (pc' := 58) (x := x5) kc_45_56 rfl rfl ?_
      refine xi_aload_n (pc' := 59) (x := 115) kc_45_58 rfl rfl ?_
      refine xp_115 K.1 (fun u1 u2 u3 u4 u5 u6 u7 u8 u9 u10 u11 u12 u13 bu1 bu2 bu3 bu4 bu5 bu6 bu7 bu8 bu9 bu10 bu11 bu12 bu13 A14 => ?_)
      refine xi_getfield (pc' := 62) (v := .int u2) kc_45_59 rfl rfl rfl A14 rfl ?_
      by_cases c15 : u2.toInt < x5.toInt
      · refine xi_cmt (pc' := 221) kc_45_62 rfl (xc_gt_t (X := x5.toInt) (Y := u2.toInt) rfl rfl (by omega)) ?_
        refine xi_lload_n (pc' := 222) (x := w2) kc_45_221 rfl rfl ?_
        refine xi_lreturn kc_45_222 mr_45 ?_
        exact kk w2 h K
      · refine xi_cmf (pc' := 65) kc_45_62 rfl (xc_gt_f (X := x5.toInt) (Y := u2.toInt) rfl rfl (by omega)) ?_
        refine xw_lv (b := [(0, .ref 115), (1, .int x1), (2, .long w2), (4, .int x4), (5, .int x5)]) (lvS_cons (lvS_cons (lvS_cons (lvS_cons (lvS_cons (lvS_nil (show ([0, 1, 2, 4, 5] : List Nat).Nodup by decide)) rfl) rfl) rfl) rfl) rfl) ?_
        exact i3 x1 w2 x4 x5 h (by omega) (by omega) (by omega) K (by omega)
    · intro x1 w2 x4 x5 h b1 b4 b5 K hm
      refine xi_iload (pc' := 67) (x := x4) kc_45_65 rfl rfl ?_
      refine xi_aload_n (pc' := 68) (x := 115) kc_45_67 rfl rfl ?_
      refine xp_115 K.1 (fun u1 u2 u3 u4 u5 u6 u7 u8 u9 u10 u11 u12 u13 bu1 bu2 bu3 bu4 bu5 bu6 bu7 bu8 bu9 bu10 bu11 bu12 bu13 A14 => ?_)
      refine xi_getfield (pc' := 71) (v := .int u4) kc_45_68 rfl rfl rfl A14 rfl ?_
      by_cases c15 : u4.toInt ≤ x4.toInt
      · refine xi_cmt (pc' := 176) kc_45_71 rfl (xc_ge_t (X := x4.toInt) (Y := u4.toInt) rfl rfl (by omega)) ?_
        refine xi_iload (pc' := 178) (x := x5) kc_45_176 rfl rfl ?_
        refine xi_aload_n (pc' := 179) (x := 115) kc_45_178 rfl rfl ?_
        refine xi_getfield (pc' := 182) (v := .int u2) kc_45_179 rfl rfl rfl A14 rfl ?_
        by_cases c16 : u2.toInt ≤ x5.toInt
        · refine xi_cmt (pc' := 215) kc_45_182 rfl (xc_ge_t (X := x5.toInt) (Y := u2.toInt) rfl rfl (by omega)) ?_
          refine xcps2 (α := Int32) (x5 + 1) (fun v17 ev17 => ?_)
          have zv17 : v17.toInt = (x5.toInt + 1) := by rw [← ev17]; exact (xz_add (X := x5.toInt) (Y := 1) rfl (by decide) (by omega) (by omega)).trans (by omega)
          refine xi_iinc (pc' := 218) (x := x5) (v := v17) (lv' := [(5, .int v17), (0, .ref 115), (1, .int x1), (2, .long w2), (4, .int x4)]) kc_45_215 rfl rfl ev17 rfl (xm_lt ml_45 rfl) ?_
          refine xi_goto (pc' := 56) kc_45_218 rfl ?_
          refine xw_lv (b := [(0, .ref 115), (1, .int x1), (2, .long w2), (4, .int x4), (5, .int v17)]) (lvS_cons (lvS_cons (lvS_cons (lvS_cons (lvS_cons (lvS_nil (show ([5, 0, 1, 2, 4] : List Nat).Nodup by decide)) rfl) rfl) rfl) rfl) rfl) ?_
          exact i2 x1 w2 x4 v17 h (by omega) (by omega) (by omega) K (by omega)
        · refine xi_cmf (pc' := 185) kc_45_182 rfl (xc_ge_f (X := x5.toInt) (Y := u2.toInt) rfl rfl (by omega)) ?_
          refine xi_aload_n (pc' := 186) (x := 115) kc_45_185 rfl rfl ?_
          refine xi_aload_n (pc' := 187) (x := 115) kc_45_186 rfl rfl ?_
          refine xi_getfield (pc' := 190) (v := .ref 150) kc_45_187 rfl rfl rfl A14 rfl ?_
          refine xi_iload (pc' := 192) (x := x5) kc_45_190 rfl rfl ?_
          refine xcps4 (xk_arr K.1 xD_150) (fun y18 A18 hy18 ry18 => ?_)
          refine xcps4 (xj_get hy18 ry18 (i := x5) (by omega) (by omega)) (fun v19 ev19 bv19 dv19 => ?_)
          refine xi_iaload (pc' := 193) (v := v19) kc_45_192 rfl A18 (by decide) rfl (xi_in (by omega) (by rw [hy18]; omega)) ev19 ?_
          refine xi_putfield (pc' := 196) (fs' := [.int u1, .int u2, .ref 116, .ref 117, .ref 118, .ref 119, .ref 120, .ref 121, .ref 122, .ref 123, .ref 124, .ref 125, .ref 126, .ref 127, .ref 128, .ref 129, .int u3, .ref 130, .int u4, .ref 131, .ref 132, .ref 133, .ref 134, .int u5, .ref 135, .ref 136, .ref 137, .ref 138, .ref 139, .ref 140, .ref 141, .ref 142, .int v19, .int u7, .int u8, .ref 143, .ref 144, .ref 145, .ref 146, .ref 147, .ref 148, .int u9, .ref 149, .ref 150, .ref 151, .int u10, .ref 152, .ref 153, .ref 154, .ref 155, .ref 156, .ref 157, .ref 158, .ref 159, .int u11, .ref 160, .int u12, .ref 161, .ref 162, .ref 163, .ref 164, .int u13, .ref 165, .ref 166]) kc_45_193 rfl rfl rfl A14 rfl rfl rfl (Nat.le_of_ble_eq_true rfl) rfl (fun hh21 eh20 => ?_)
          have K22 := xk_pf (k := 32) (v := v19) K (xk_wf rfl) xD_115 A14 rfl (by first | omega | decide) (by first | omega | decide) eh20 rfl
          refine xi_aload_n (pc' := 197) (x := 115) kc_45_196 rfl rfl ?_
          refine xi_aload_n (pc' := 198) (x := 115) kc_45_197 rfl rfl ?_
          refine xi_getfield (pc' := 201) (v := .ref 151) kc_45_198 rfl rfl rfl eh20.1 rfl ?_
          refine xi_iload (pc' := 203) (x := x5) kc_45_201 rfl rfl ?_
          refine xcps4 (xk_arr K22.1 xD_151) (fun y23 A23 hy23 ry23 => ?_)
          refine xcps4 (xj_get hy23 ry23 (i := x5) (by omega) (by omega)) (fun v24 ev24 bv24 dv24 => ?_)
          refine xi_iaload (pc' := 204) (v := v24) kc_45_203 rfl A23 (by decide) rfl (xi_in (by omega) (by rw [hy23]; omega)) ev24 ?_
          refine xi_putfield (pc' := 207) (fs' := [.int u1, .int u2, .ref 116, .ref 117, .ref 118, .ref 119, .ref 120, .ref 121, .ref 122, .ref 123, .ref 124, .ref 125, .ref 126, .ref 127, .ref 128, .ref 129, .int u3, .ref 130, .int u4, .ref 131, .ref 132, .ref 133, .ref 134, .int u5, .ref 135, .ref 136, .ref 137, .ref 138, .ref 139, .ref 140, .ref 141, .ref 142, .int v19, .int v24, .int u8, .ref 143, .ref 144, .ref 145, .ref 146, .ref 147, .ref 148, .int u9, .ref 149, .ref 150, .ref 151, .int u10, .ref 152, .ref 153, .ref 154, .ref 155, .ref 156, .ref 157, .ref 158, .ref 159, .int u11, .ref 160, .int u12, .ref 161, .ref 162, .ref 163, .ref 164, .int u13, .ref 165, .ref 166]) kc_45_204 rfl rfl rfl eh20.1 rfl rfl rfl (Nat.le_of_ble_eq_true rfl) rfl (fun hh26 eh25 => ?_)
          have K27 := xk_pf (k := 33) (v := v24) K22 (xk_wf rfl) xD_115 eh20.1 rfl (by first | omega | decide) (by first | omega | decide) eh25 rfl
          refine xi_aload_n (pc' := 208) (x := 115) kc_45_207 rfl rfl ?_
          refine xi_iload_n (pc' := 209) (x := x1) kc_45_208 rfl rfl ?_
          refine xi_iconst (pc' := 210) (v := 0) kc_45_209 rfl rfl ?_
          refine xi_iload (pc' := 212) (x := x5) kc_45_210 rfl rfl ?_
          refine xi_virtual (mj := 36) (as := [.int x1, .int 0, .int x5]) (st1 := []) (lv0 := [(0, .ref 115), (1, .int x1), (2, .int 0), (3, .int x5)]) kc_45_212 rfl rfl rfl rfl rfl eh25.1 (Nat.le_of_ble_eq_true rfl) (hJ _ _ _ _ (by decide)) (xm_le ml_36 rfl) rfl ?_
          have zc0 : (0 : Int32).toInt = 0 := by decide
          refine mt_36_0 hJ hov1 hov2 (d := d) (x1 := x1) (x2 := 0) (x3 := x5) K27.1 (by first | omega | decide) (by first | omega | decide) (by first | omega | decide) (fun hh29 K30 => ?_)
          have K31 := xk_tr K27 K30 rfl
          refine xp_115 K31.1 (fun u32 u33 u34 u35 u36 u37 u38 u39 u40 u41 u42 u43 u44 bu32 bu33 bu34 bu35 bu36 bu37 bu38 bu39 bu40 bu41 bu42 bu43 bu44 A45 => ?_)
          have e46 : u2 = u33 := xk_eqi (q := 1) K30 rfl eh25.1 A45 rfl rfl
          subst e46
          have e47 : u4 = u35 := xk_eqi (q := 18) K30 rfl eh25.1 A45 rfl rfl
          subst e47
          show xw J ov (d + 5) 45 (215, [(0, .ref 115), (1, .int x1), (2, .long w2), (4, .int x4), (5, .int x5)], [], hh29) _
          refine xcps2 (α := Int32) (x5 + 1) (fun v48 ev48 => ?_)
          have zv48 : v48.toInt = (x5.toInt + 1) := by rw [← ev48]; exact (xz_add (X := x5.toInt) (Y := 1) rfl (by decide) (by omega) (by omega)).trans (by omega)
          refine xi_iinc (pc' := 218) (x := x5) (v := v48) (lv' := [(5, .int v48), (0, .ref 115), (1, .int x1), (2, .long w2), (4, .int x4)]) kc_45_215 rfl rfl ev48 rfl (xm_lt ml_45 rfl) ?_
          refine xi_goto (pc' := 56) kc_45_218 rfl ?_
          refine xw_lv (b := [(0, .ref 115), (1, .int x1), (2, .long w2), (4, .int x4), (5, .int v48)]) (lvS_cons (lvS_cons (lvS_cons (lvS_cons (lvS_cons (lvS_nil (show ([5, 0, 1, 2, 4] : List Nat).Nodup by decide)) rfl) rfl) rfl) rfl) rfl) ?_
          exact i2 x1 w2 x4 v48 hh29 (by omega) (by omega) (by omega) K31 (by omega)
      · refine xi_cmf (pc' := 74) kc_45_71 rfl (xc_ge_f (X := x4.toInt) (Y := u4.toInt) rfl rfl (by omega)) ?_
        refine xi_aload_n (pc' := 75) (x := 115) kc_45_74 rfl rfl ?_
        refine xi_getfield (pc' := 78) (v := .ref 132) kc_45_75 rfl rfl rfl A14 rfl ?_
        refine xi_iload (pc' := 80) (x := x4) kc_45_78 rfl rfl ?_
        refine xcps4 (xk_arr K.1 xD_132) (fun y49 A49 hy49 ry49 => ?_)
        refine xcps4 (xj_get hy49 ry49 (i := x4) (by omega) (by omega)) (fun v50 ev50 bv50 dv50 => ?_)
        refine xi_iaload (pc' := 81) (v := v50) kc_45_80 rfl A49 (by decide) rfl (xi_in (by omega) (by rw [hy49]; omega)) ev50 ?_
        refine xi_iload (pc' := 83) (x := x5) kc_45_81 rfl rfl ?_
        by_cases c51 : v50.toInt = x5.toInt
        · refine xi_cmf (pc' := 86) kc_45_83 rfl (xc_ne_f (X := v50.toInt) (Y := x5.toInt) rfl rfl (by omega)) ?_
          refine xi_aload_n (pc' := 87) (x := 115) kc_45_86 rfl rfl ?_
          refine xi_getfield (pc' := 90) (v := .ref 142) kc_45_87 rfl rfl rfl A14 rfl ?_
          refine xi_aload_n (pc' := 91) (x := 115) kc_45_90 rfl rfl ?_
          refine xi_getfield (pc' := 94) (v := .ref 131) kc_45_91 rfl rfl rfl A14 rfl ?_
          refine xi_iload (pc' := 96) (x := x4) kc_45_94 rfl rfl ?_
          refine xcps4 (xk_arr K.1 xD_131) (fun y52 A52 hy52 ry52 => ?_)
          refine xcps4 (xj_get hy52 ry52 (i := x4) (by omega) (by omega)) (fun v53 ev53 bv53 dv53 => ?_)
          refine xi_iaload (pc' := 97) (v := v53) kc_45_96 rfl A52 (by decide) rfl (xi_in (by omega) (by rw [hy52]; omega)) ev53 ?_
          refine xcps4 (xk_arr K.1 xD_142) (fun y54 A54 hy54 ry54 => ?_)
          refine xcps4 (xj_get hy54 ry54 (i := v53) (by omega) (by omega)) (fun v55 ev55 bv55 dv55 => ?_)
          refine xi_iaload (pc' := 98) (v := v55) kc_45_97 rfl A54 (by decide) rfl (xi_in (by omega) (by rw [hy54]; omega)) ev55 ?_
          refine xi_istore (pc' := 100) (lv' := [(6, .int v55), (0, .ref 115), (1, .int x1), (2, .long w2), (4, .int x4), (5, .int x5)]) kc_45_98 rfl rfl (xm_lt ml_45 rfl) ?_
          refine xi_aload_n (pc' := 101) (x := 115) kc_45_100 rfl rfl ?_
          refine xi_getfield (pc' := 104) (v := .ref 133) kc_45_101 rfl rfl rfl A14 rfl ?_
          refine xi_iload (pc' := 106) (x := x4) kc_45_104 rfl rfl ?_
          refine xcps4 (xk_arr K.1 xD_133) (fun y56 A56 hy56 ry56 => ?_)
          refine xcps4 (xj_get hy56 ry56 (i := x4) (by omega) (by omega)) (fun v57 ev57 bv57 dv57 => ?_)
          refine xi_iaload (pc' := 107) (v := v57) kc_45_106 rfl A56 (by decide) rfl (xi_in (by omega) (by rw [hy56]; omega)) ev57 ?_
          refine xi_aload_n (pc' := 108) (x := 115) kc_45_107 rfl rfl ?_
          refine xi_getfield (pc' := 111) (v := .ref 134) kc_45_108 rfl rfl rfl A14 rfl ?_
          refine xi_iload (pc' := 113) (x := x4) kc_45_111 rfl rfl ?_
          refine xcps4 (xk_arr K.1 xD_134) (fun y58 A58 hy58 ry58 => ?_)
          refine xcps4 (xj_get hy58 ry58 (i := x4) (by omega) (by omega)) (fun v59 ev59 bv59 dv59 => ?_)
          refine xi_iaload (pc' := 114) (v := v59) kc_45_113 rfl A58 (by decide) rfl (xi_in (by omega) (by rw [hy58]; omega)) ev59 ?_
          refine xcps2 (α := Int32) ((v57 : Int32) - v59) (fun v60 ev60 => ?_)
          have rv60 := xc_rng v60
          refine xi_isub (pc' := 115) (v := v60) kc_45_114 rfl ev60 ?_
          refine xi_istore (pc' := 117) (lv' := [(7, .int v60), (6, .int v55), (0, .ref 115), (1, .int x1), (2, .long w2), (4, .int x4), (5, .int x5)]) kc_45_115 rfl rfl (xm_lt ml_45 rfl) ?_
          refine xi_aload_n (pc' := 118) (x := 115) kc_45_117 rfl rfl ?_
          refine xi_getfield (pc' := 121) (v := .ref 133) kc_45_118 rfl rfl rfl A14 rfl ?_
          refine xi_iload (pc' := 123) (x := x4) kc_45_121 rfl rfl ?_
          refine xi_iaload (pc' := 124) (v := v57) kc_45_123 rfl A56 (by decide) rfl (xi_in (by omega) (by rw [hy56]; omega)) ev57 ?_
          refine xi_aload_n (pc' := 125) (x := 115) kc_45_124 rfl rfl ?_
          refine xi_getfield (pc' := 128) (v := .ref 134) kc_45_125 rfl rfl rfl A14 rfl ?_
          refine xi_iload (pc' := 130) (x := x4) kc_45_128 rfl rfl ?_
          refine xi_iaload (pc' := 131) (v := v59) kc_45_130 rfl A58 (by decide) rfl (xi_in (by omega) (by rw [hy58]; omega)) ev59 ?_
          refine xcps2 (α := Int32) ((v57 : Int32) + v59) (fun v61 ev61 => ?_)
          have rv61 := xc_rng v61
          refine xi_iadd (pc' := 132) (v := v61) kc_45_131 rfl ev61 ?_
          refine xi_istore (pc' := 134) (lv' := [(8, .int v61), (7, .int v60), (6, .int v55), (0, .ref 115), (1, .int x1), (2, .long w2), (4, .int x4), (5, .int x5)]) kc_45_132 rfl rfl (xm_lt ml_45 rfl) ?_
          refine xi_lload_n (pc' := 135) (x := w2) kc_45_134 rfl rfl ?_
          refine xi_iload (pc' := 137) (x := v55) kc_45_135 rfl rfl ?_
          refine xi_iload (pc' := 139) (x := v60) kc_45_137 rfl rfl ?_
          by_cases c62 : v60.toInt ≤ v55.toInt
          · refine xi_cmt (pc' := 151) kc_45_139 rfl (xc_ge_t (X := v55.toInt) (Y := v60.toInt) rfl rfl (by omega)) ?_
            refine xi_iload (pc' := 153) (x := v55) kc_45_151 rfl rfl ?_
            refine xi_iload (pc' := 155) (x := v61) kc_45_153 rfl rfl ?_
            by_cases c63 : v55.toInt ≤ v61.toInt
            · refine xi_cmt (pc' := 167) kc_45_155 rfl (xc_le_t (X := v55.toInt) (Y := v61.toInt) rfl rfl (by omega)) ?_
              refine xi_lconst (pc' := 168) (v := 0) kc_45_167 rfl rfl ?_
              refine xcps2 (α := Int64) ((w2 : Int64) + 0) (fun v64 ev64 => ?_)
              refine xi_ladd (pc' := 169) (v := v64) kc_45_168 rfl ev64 ?_
              refine xi_lstore_n (pc' := 170) (lv' := [(2, .long v64), (8, .int v61), (7, .int v60), (6, .int v55), (0, .ref 115), (1, .int x1), (4, .int x4), (5, .int x5)]) kc_45_169 rfl rfl (xm_lt ml_45 rfl) ?_
              refine xcps2 (α := Int32) (x4 + 1) (fun v65 ev65 => ?_)
              have zv65 : v65.toInt = (x4.toInt + 1) := by rw [← ev65]; exact (xz_add (X := x4.toInt) (Y := 1) rfl (by decide) (by omega) (by omega)).trans (by omega)
              refine xi_iinc (pc' := 173) (x := x4) (v := v65) (lv' := [(4, .int v65), (2, .long v64), (8, .int v61), (7, .int v60), (6, .int v55), (0, .ref 115), (1, .int x1), (5, .int x5)]) kc_45_170 rfl rfl ev65 rfl (xm_lt ml_45 rfl) ?_
              refine xi_goto (pc' := 65) kc_45_173 rfl ?_
              refine xw_lv (b := [(0, .ref 115), (1, .int x1), (2, .long v64), (4, .int v65), (5, .int x5)]) (lvS_cons (lvS_cons (lvS_cons (lvS_cons (lvS_cons (lvS_nil (show ([4, 2, 8, 7, 6, 0, 1, 5] : List Nat).Nodup by decide)) rfl) rfl) rfl) rfl) rfl) ?_
              exact i3 x1 v64 v65 x5 h (by omega) (by omega) (by omega) K (by omega)
            · refine xi_cmf (pc' := 158) kc_45_155 rfl (xc_le_f (X := v55.toInt) (Y := v61.toInt) rfl rfl (by omega)) ?_
              refine xi_iload (pc' := 160) (x := v55) kc_45_158 rfl rfl ?_
              refine xi_iload (pc' := 162) (x := v61) kc_45_160 rfl rfl ?_
              refine xcps2 (α := Int32) ((v55 : Int32) - v61) (fun v66 ev66 => ?_)
              have rv66 := xc_rng v66
              refine xi_isub (pc' := 163) (v := v66) kc_45_162 rfl ev66 ?_
              obtain ⟨v67, ev67⟩ : ∃ q, (v66 : Int32).toInt64 = q := ⟨_, rfl⟩
              refine xi_i2l (pc' := 164) (v := v67) kc_45_163 rfl ev67 ?_
              refine xi_goto (pc' := 168) kc_45_164 rfl ?_
              refine xcps2 (α := Int64) ((w2 : Int64) + v67) (fun v68 ev68 => ?_)
              refine xi_ladd (pc' := 169) (v := v68) kc_45_168 rfl ev68 ?_
              refine xi_lstore_n (pc' := 170) (lv' := [(2, .long v68), (8, .int v61), (7, .int v60), (6, .int v55), (0, .ref 115), (1, .int x1), (4, .int x4), (5, .int x5)]) kc_45_169 rfl rfl (xm_lt ml_45 rfl) ?_
              refine xcps2 (α := Int32) (x4 + 1) (fun v69 ev69 => ?_)
              have zv69 : v69.toInt = (x4.toInt + 1) := by rw [← ev69]; exact (xz_add (X := x4.toInt) (Y := 1) rfl (by decide) (by omega) (by omega)).trans (by omega)
              refine xi_iinc (pc' := 173) (x := x4) (v := v69) (lv' := [(4, .int v69), (2, .long v68), (8, .int v61), (7, .int v60), (6, .int v55), (0, .ref 115), (1, .int x1), (5, .int x5)]) kc_45_170 rfl rfl ev69 rfl (xm_lt ml_45 rfl) ?_
              refine xi_goto (pc' := 65) kc_45_173 rfl ?_
              refine xw_lv (b := [(0, .ref 115), (1, .int x1), (2, .long v68), (4, .int v69), (5, .int x5)]) (lvS_cons (lvS_cons (lvS_cons (lvS_cons (lvS_cons (lvS_nil (show ([4, 2, 8, 7, 6, 0, 1, 5] : List Nat).Nodup by decide)) rfl) rfl) rfl) rfl) rfl) ?_
              exact i3 x1 v68 v69 x5 h (by omega) (by omega) (by omega) K (by omega)
          · refine xi_cmf (pc' := 142) kc_45_139 rfl (xc_ge_f (X := v55.toInt) (Y := v60.toInt) rfl rfl (by omega)) ?_
            refine xi_iload (pc' := 144) (x := v60) kc_45_142 rfl rfl ?_
            refine xi_iload (pc' := 146) (x := v55) kc_45_144 rfl rfl ?_
            refine xcps2 (α := Int32) ((v60 : Int32) - v55) (fun v70 ev70 => ?_)
            have rv70 := xc_rng v70
            refine xi_isub (pc' := 147) (v := v70) kc_45_146 rfl ev70 ?_
            obtain ⟨v71, ev71⟩ : ∃ q, (v70 : Int32).toInt64 = q := ⟨_, rfl⟩
            refine xi_i2l (pc' := 148) (v := v71) kc_45_147 rfl ev71 ?_
            refine xi_goto (pc' := 168) kc_45_148 rfl ?_
            refine xcps2 (α := Int64) ((w2 : Int64) + v71) (fun v72 ev72 => ?_)
            refine xi_ladd (pc' := 169) (v := v72) kc_45_168 rfl ev72 ?_
            refine xi_lstore_n (pc' := 170) (lv' := [(2, .long v72), (8, .int v61), (7, .int v60), (6, .int v55), (0, .ref 115), (1, .int x1), (4, .int x4), (5, .int x5)]) kc_45_169 rfl rfl (xm_lt ml_45 rfl) ?_
            refine xcps2 (α := Int32) (x4 + 1) (fun v73 ev73 => ?_)
            have zv73 : v73.toInt = (x4.toInt + 1) := by rw [← ev73]; exact (xz_add (X := x4.toInt) (Y := 1) rfl (by decide) (by omega) (by omega)).trans (by omega)
            refine xi_iinc (pc' := 173) (x := x4) (v := v73) (lv' := [(4, .int v73), (2, .long v72), (8, .int v61), (7, .int v60), (6, .int v55), (0, .ref 115), (1, .int x1), (5, .int x5)]) kc_45_170 rfl rfl ev73 rfl (xm_lt ml_45 rfl) ?_
            refine xi_goto (pc' := 65) kc_45_173 rfl ?_
            refine xw_lv (b := [(0, .ref 115), (1, .int x1), (2, .long v72), (4, .int v73), (5, .int x5)]) (lvS_cons (lvS_cons (lvS_cons (lvS_cons (lvS_cons (lvS_nil (show ([4, 2, 8, 7, 6, 0, 1, 5] : List Nat).Nodup by decide)) rfl) rfl) rfl) rfl) rfl) ?_
            exact i3 x1 v72 v73 x5 h (by omega) (by omega) (by omega) K (by omega)
        · refine xi_cmt (pc' := 176) kc_45_83 rfl (xc_ne_t (X := v50.toInt) (Y := x5.toInt) rfl rfl (by omega)) ?_
          refine xi_iload (pc' := 178) (x := x5) kc_45_176 rfl rfl ?_
          refine xi_aload_n (pc' := 179) (x := 115) kc_45_178 rfl rfl ?_
          refine xi_getfield (pc' := 182) (v := .int u2) kc_45_179 rfl rfl rfl A14 rfl ?_
          by_cases c74 : u2.toInt ≤ x5.toInt
          · refine xi_cmt (pc' := 215) kc_45_182 rfl (xc_ge_t (X := x5.toInt) (Y := u2.toInt) rfl rfl (by omega)) ?_
            refine xcps2 (α := Int32) (x5 + 1) (fun v75 ev75 => ?_)
            have zv75 : v75.toInt = (x5.toInt + 1) := by rw [← ev75]; exact (xz_add (X := x5.toInt) (Y := 1) rfl (by decide) (by omega) (by omega)).trans (by omega)
            refine xi_iinc (pc' := 218) (x := x5) (v := v75) (lv' := [(5, .int v75), (0, .ref 115), (1, .int x1), (2, .long w2), (4, .int x4)]) kc_45_215 rfl rfl ev75 rfl (xm_lt ml_45 rfl) ?_
            refine xi_goto (pc' := 56) kc_45_218 rfl ?_
            refine xw_lv (b := [(0, .ref 115), (1, .int x1), (2, .long w2), (4, .int x4), (5, .int v75)]) (lvS_cons (lvS_cons (lvS_cons (lvS_cons (lvS_cons (lvS_nil (show ([5, 0, 1, 2, 4] : List Nat).Nodup by decide)) rfl) rfl) rfl) rfl) rfl) ?_
            exact i2 x1 w2 x4 v75 h (by omega) (by omega) (by omega) K (by omega)
          · refine xi_cmf (pc' := 185) kc_45_182 rfl (xc_ge_f (X := x5.toInt) (Y := u2.toInt) rfl rfl (by omega)) ?_
            refine xi_aload_n (pc' := 186) (x := 115) kc_45_185 rfl rfl ?_
            refine xi_aload_n (pc' := 187) (x := 115) kc_45_186 rfl rfl ?_
            refine xi_getfield (pc' := 190) (v := .ref 150) kc_45_187 rfl rfl rfl A14 rfl ?_
            refine xi_iload (pc' := 192) (x := x5) kc_45_190 rfl rfl ?_
            refine xcps4 (xk_arr K.1 xD_150) (fun y76 A76 hy76 ry76 => ?_)
            refine xcps4 (xj_get hy76 ry76 (i := x5) (by omega) (by omega)) (fun v77 ev77 bv77 dv77 => ?_)
            refine xi_iaload (pc' := 193) (v := v77) kc_45_192 rfl A76 (by decide) rfl (xi_in (by omega) (by rw [hy76]; omega)) ev77 ?_
            refine xi_putfield (pc' := 196) (fs' := [.int u1, .int u2, .ref 116, .ref 117, .ref 118, .ref 119, .ref 120, .ref 121, .ref 122, .ref 123, .ref 124, .ref 125, .ref 126, .ref 127, .ref 128, .ref 129, .int u3, .ref 130, .int u4, .ref 131, .ref 132, .ref 133, .ref 134, .int u5, .ref 135, .ref 136, .ref 137, .ref 138, .ref 139, .ref 140, .ref 141, .ref 142, .int v77, .int u7, .int u8, .ref 143, .ref 144, .ref 145, .ref 146, .ref 147, .ref 148, .int u9, .ref 149, .ref 150, .ref 151, .int u10, .ref 152, .ref 153, .ref 154, .ref 155, .ref 156, .ref 157, .ref 158, .ref 159, .int u11, .ref 160, .int u12, .ref 161, .ref 162, .ref 163, .ref 164, .int u13, .ref 165, .ref 166]) kc_45_193 rfl rfl rfl A14 rfl rfl rfl (Nat.le_of_ble_eq_true rfl) rfl (fun hh79 eh78 => ?_)
            have K80 := xk_pf (k := 32) (v := v77) K (xk_wf rfl) xD_115 A14 rfl (by first | omega | decide) (by first | omega | decide) eh78 rfl
            refine xi_aload_n (pc' := 197) (x := 115) kc_45_196 rfl rfl ?_
            refine xi_aload_n (pc' := 198) (x := 115) kc_45_197 rfl rfl ?_
            refine xi_getfield (pc' := 201) (v := .ref 151) kc_45_198 rfl rfl rfl eh78.1 rfl ?_
            refine xi_iload (pc' := 203) (x := x5) kc_45_201 rfl rfl ?_
            refine xcps4 (xk_arr K80.1 xD_151) (fun y81 A81 hy81 ry81 => ?_)
            refine xcps4 (xj_get hy81 ry81 (i := x5) (by omega) (by omega)) (fun v82 ev82 bv82 dv82 => ?_)
            refine xi_iaload (pc' := 204) (v := v82) kc_45_203 rfl A81 (by decide) rfl (xi_in (by omega) (by rw [hy81]; omega)) ev82 ?_
            refine xi_putfield (pc' := 207) (fs' := [.int u1, .int u2, .ref 116, .ref 117, .ref 118, .ref 119, .ref 120, .ref 121, .ref 122, .ref 123, .ref 124, .ref 125, .ref 126, .ref 127, .ref 128, .ref 129, .int u3, .ref 130, .int u4, .ref 131, .ref 132, .ref 133, .ref 134, .int u5, .ref 135, .ref 136, .ref 137, .ref 138, .ref 139, .ref 140, .ref 141, .ref 142, .int v77, .int v82, .int u8, .ref 143, .ref 144, .ref 145, .ref 146, .ref 147, .ref 148, .int u9, .ref 149, .ref 150, .ref 151, .int u10, .ref 152, .ref 153, .ref 154, .ref 155, .ref 156, .ref 157, .ref 158, .ref 159, .int u11, .ref 160, .int u12, .ref 161, .ref 162, .ref 163, .ref 164, .int u13, .ref 165, .ref 166]) kc_45_204 rfl rfl rfl eh78.1 rfl rfl rfl (Nat.le_of_ble_eq_true rfl) rfl (fun hh84 eh83 => ?_)
            have K85 := xk_pf (k := 33) (v := v82) K80 (xk_wf rfl) xD_115 eh78.1 rfl (by first | omega | decide) (by first | omega | decide) eh83 rfl
            refine xi_aload_n (pc' := 208) (x := 115) kc_45_207 rfl rfl ?_
            refine xi_iload_n (pc' := 209) (x := x1) kc_45_208 rfl rfl ?_
            refine xi_iconst (pc' := 210) (v := 0) kc_45_209 rfl rfl ?_
            refine xi_iload (pc' := 212) (x := x5) kc_45_210 rfl rfl ?_
            refine xi_virtual (mj := 36) (as := [.int x1, .int 0, .int x5]) (st1 := []) (lv0 := [(0, .ref 115), (1, .int x1), (2, .int 0), (3, .int x5)]) kc_45_212 rfl rfl rfl rfl rfl eh83.1 (Nat.le_of_ble_eq_true rfl) (hJ _ _ _ _ (by decide)) (xm_le ml_36 rfl) rfl ?_
            have zc0 : (0 : Int32).toInt = 0 := by decide
            refine mt_36_0 hJ hov1 hov2 (d := d) (x1 := x1) (x2 := 0) (x3 := x5) K85.1 (by first | omega | decide) (by first | omega | decide) (by first | omega | decide) (fun hh87 K88 => ?_)
            have A89 := ((eh83.2.1 132 (by decide)).trans ((eh78.2.1 132 (by decide)).trans A49))
            have K90 := xk_tr K85 K88 rfl
            refine xp_115 K90.1 (fun u91 u92 u93 u94 u95 u96 u97 u98 u99 u100 u101 u102 u103 bu91 bu92 bu93 bu94 bu95 bu96 bu97 bu98 bu99 bu100 bu101 bu102 bu103 A104 => ?_)
            have e105 : u2 = u92 := xk_eqi (q := 1) K88 rfl eh83.1 A104 rfl rfl
            subst e105
            have e106 : u4 = u94 := xk_eqi (q := 18) K88 rfl eh83.1 A104 rfl rfl
            subst e106
            have A107 := xk_eqa (q := 0) K88 rfl A89
            show xw J ov (d + 5) 45 (215, [(0, .ref 115), (1, .int x1), (2, .long w2), (4, .int x4), (5, .int x5)], [], hh87) _
            refine xcps2 (α := Int32) (x5 + 1) (fun v108 ev108 => ?_)
            have zv108 : v108.toInt = (x5.toInt + 1) := by rw [← ev108]; exact (xz_add (X := x5.toInt) (Y := 1) rfl (by decide) (by omega) (by omega)).trans (by omega)
            refine xi_iinc (pc' := 218) (x := x5) (v := v108) (lv' := [(5, .int v108), (0, .ref 115), (1, .int x1), (2, .long w2), (4, .int x4)]) kc_45_215 rfl rfl ev108 rfl (xm_lt ml_45 rfl) ?_
            refine xi_goto (pc' := 56) kc_45_218 rfl ?_
            refine xw_lv (b := [(0, .ref 115), (1, .int x1), (2, .long w2), (4, .int x4), (5, .int v108)]) (lvS_cons (lvS_cons (lvS_cons (lvS_cons (lvS_cons (lvS_nil (show ([5, 0, 1, 2, 4] : List Nat).Nodup by decide)) rfl) rfl) rfl) rfl) rfl) ?_
            exact i2 x1 w2 x4 v108 hh87 (by omega) (by omega) (by omega) K90 (by omega)
set_option maxHeartbeats 4000000 in
theorem mt_45_0 {J : xe_J} {ov : List (List Int32)} (hJ : ∀ d mj as h, mj ≠ xe_loff → J d mj as h = none) (hov1 : ov[1]? = some [10, 0, 0, 0, 0, 0]) (hov2 : ov[2]? = some [99, 30, 50, 50, 1, 99999]) {d : Nat} {Q : Option Value → xe_H → Prop} {h : xe_H} {x1 : Int32} (T : xt h) (b1 : (0 ≤ x1.toInt ∧ x1.toInt ≤ 63)) (kk : (∀ (r : Int64) (h' : xe_H), xk [(0, 9), (115, 1), (83, 0), (29, 0), (31, 0), (33, 0), (35, 0), (37, 0), (39, 0), (41, 0), (43, 0), (45, 0), (47, 0), (49, 0), (51, 0), (125, 0), (66, 8), (115, 18), (71, 0), (132, 0)] h h' → Q (some (.long r)) h')) : xw J ov (d + 5) 45 (0, [(0, .ref 115), (1, .int x1)], [], h) Q := by
  have K : xk [(0, 9), (115, 1), (83, 0), (29, 0), (31, 0), (33, 0), (35, 0), (37, 0), (39, 0), (41, 0), (43, 0), (45, 0), (47, 0), (49, 0), (51, 0), (125, 0), (66, 8), (115, 18), (71, 0), (132, 0)] h h := xk_re T
  refine xi_lconst (pc' := 1) (v := 0) kc_45_0 rfl rfl ?_
  refine xi_lstore_n (pc' := 2) (lv' := [(2, .long 0), (0, .ref 115), (1, .int x1)]) kc_45_1 rfl rfl (xm_lt ml_45 rfl) ?_
  refine xi_iconst (pc' := 3) (v := 0) kc_45_2 rfl rfl ?_
  refine xi_istore (pc' := 5) (lv' := [(4, .int 0), (2, .long 0), (0, .ref 115), (1, .int x1)]) kc_45_3 rfl rfl (xm_lt ml_45 rfl) ?_
  refine xi_iconst (pc' := 6) (v := 0) kc_45_5 rfl rfl ?_
  refine xi_istore (pc' := 8) (lv' := [(5, .int 0), (4, .int 0), (2, .long 0), (0, .ref 115), (1, .int x1)]) kc_45_6 rfl rfl (xm_lt ml_45 rfl) ?_
  have zc0 : (0 : Int32).toInt = 0 := by decide
  refine xw_lv (b := [(0, .ref 115), (1, .int x1), (2, .long 0), (4, .int 0), (5, .int 0)]) (lvS_cons (lvS_cons (lvS_cons (lvS_cons (lvS_cons (lvS_nil (show ([5, 4, 2, 0, 1] : List Nat).Nodup by decide)) rfl) rfl) rfl) rfl) rfl) ?_
  exact (lp_45_0 hJ hov1 hov2 (d := d) (hb := h) (fun r9 h9 K9 => kk r9 h9 (xk_tr K K9 rfl)) 37344).1 x1 0 0 0 h (by omega) (by omega) (by omega) (xk_re K.1) (by omega)
set_option maxHeartbeats 4000000 in
theorem lp_43_0 {J : xe_J} {ov : List (List Int32)} (hJ : ∀ d mj as h, mj ≠ xe_loff → J d mj as h = none) (hov1 : ov[1]? = some [10, 0, 0, 0, 0, 0]) (hov2 : ov[2]? = some [99, 30, 50, 50, 1, 99999]) {d : Nat} {Q : Option Value → xe_H → Prop} {hb : xe_H} (kk : (∀ h' : xe_H, xk [(0, 9), (115, 1), (83, 0), (29, 0), (31, 0), (33, 0), (35, 0), (37, 0), (39, 0), (41, 0), (43, 0), (45, 0), (47, 0), (49, 0), (51, 0), (125, 0), (66, 8), (115, 18), (71, 0), (132, 0)] hb h' → Q none h')) : ∀ m : Nat, (∀ (x1 : Int32) (h : xe_H), (0 ≤ x1.toInt ∧ x1.toInt ≤ 64) → xk [(0, 9), (115, 1), (83, 0), (29, 0), (31, 0), (33, 0), (35, 0), (37, 0), (39, 0), (41, 0), (43, 0), (45, 0), (47, 0), (49, 0), (51, 0), (125, 0), (66, 8), (115, 18), (71, 0), (132, 0)] hb h → (-1) * x1.toInt + 64 < (m : Int) → xw J ov (d + 6) 43 (19, [(0, .ref 115), (1, .int x1)], [], h) Q) := by
  intro m
  induction m with
  | zero =>
    intro x1 h b1 K hm; exfalso; omega
  | succ m ih =>
    have i0 := ih
    intro x1 h b1 K hm
    refine xi_iload_n (pc' := 20) (x := x1) kc_43_19 rfl rfl ?_
    refine xi_aload_n (pc' := 21) (x := 115) kc_43_20 rfl rfl ?_
    refine xp_115 K.1 (fun u1 u2 u3 u4 u5 u6 u7 u8 u9 u10 u11 u12 u13 bu1 bu2 bu3 bu4 bu5 bu6 bu7 bu8 bu9 bu10 bu11 bu12 bu13 A14 => ?_)
    refine xi_virtual (mj := 42) (as := []) (st1 := [.int x1]) (lv0 := [(0, .ref 115)]) kc_43_21 rfl rfl rfl rfl rfl A14 (Nat.le_of_ble_eq_true rfl) (hJ _ _ _ _ (by decide)) (xm_le ml_42 rfl) rfl ?_
    refine xi_iconst (pc' := 1) (v := 1) kc_42_0 rfl rfl ?_
    refine xi_aload_n (pc' := 2) (x := 115) kc_42_1 rfl rfl ?_
    refine xi_getfield (pc' := 5) (v := .int u5) kc_42_2 rfl rfl rfl A14 rfl ?_
    refine xi_bipush (pc' := 7) (v := 6) kc_42_5 rfl rfl ?_
    by_cases c15 : 6 ≤ u5.toInt
    · refine xi_cmt (pc' := 17) kc_42_7 rfl (xc_ge_t (X := u5.toInt) (Y := 6) rfl (by decide) (by omega)) ?_
      refine xi_bipush (pc' := 19) (v := 6) kc_42_17 rfl rfl ?_
      refine xi_ishl (pc' := 20) (v := 64) kc_42_19 rfl rfl ?_
      refine xi_ireturn kc_42_20 mr_42 rfl ?_
      show xw J ov (d + 6) 43 (24, [(0, .ref 115), (1, .int x1)], [.int 64, .int x1], h) _
      by_cases c16 : 64 ≤ x1.toInt
      · refine xi_cmt (pc' := 44) kc_43_24 rfl (xc_ge_t (X := x1.toInt) (Y := 64) rfl (by decide) (by omega)) ?_
        refine xi_return kc_43_44 mr_43 ?_
        exact kk h K
      · refine xi_cmf (pc' := 27) kc_43_24 rfl (xc_ge_f (X := x1.toInt) (Y := 64) rfl (by decide) (by omega)) ?_
        refine xi_aload_n (pc' := 28) (x := 115) kc_43_27 rfl rfl ?_
        refine xi_getfield (pc' := 31) (v := .ref 149) kc_43_28 rfl rfl rfl A14 rfl ?_
        refine xi_iload_n (pc' := 32) (x := x1) kc_43_31 rfl rfl ?_
        refine xi_aload_n (pc' := 33) (x := 115) kc_43_32 rfl rfl ?_
        refine xi_iload_n (pc' := 34) (x := x1) kc_43_33 rfl rfl ?_
        refine xi_virtual (mj := 45) (as := [.int x1]) (st1 := [.int x1, .ref 149]) (lv0 := [(0, .ref 115), (1, .int x1)]) kc_43_34 rfl rfl rfl rfl rfl A14 (Nat.le_of_ble_eq_true rfl) (hJ _ _ _ _ (by decide)) (xm_le ml_45 rfl) rfl ?_
        refine mt_45_0 hJ hov1 hov2 (d := d) (x1 := x1) K.1 (by first | omega | decide) (fun r17 hh18 K19 => ?_)
        have K20 := xk_tr K K19 rfl
        refine xp_115 K20.1 (fun u21 u22 u23 u24 u25 u26 u27 u28 u29 u30 u31 u32 u33 bu21 bu22 bu23 bu24 bu25 bu26 bu27 bu28 bu29 bu30 bu31 bu32 bu33 A34 => ?_)
        have e35 : u2 = u22 := xk_eqi (q := 1) K19 rfl A14 A34 rfl rfl
        subst e35
        have e36 : u4 = u24 := xk_eqi (q := 18) K19 rfl A14 A34 rfl rfl
        subst e36
        show xw J ov (d + 6) 43 (37, [(0, .ref 115), (1, .int x1)], [.long r17, .int x1, .ref 149], hh18) _
        obtain ⟨y37, A37, hy37⟩ := xk_larr K20.1 xD_149
        obtain ⟨y38, s38, hy38⟩ := xj_lset (v := r17) hy37 x1
        refine xi_lastore (pc' := 38) (x' := y38) kc_43_37 rfl A37 rfl (xi_in (by omega) (by rw [hy37]; omega)) s38 (fun hh38 eh38 => ?_)
        have K39 := xk_pla K20 (xk_wa rfl) xD_149 hy38 eh38
        refine xcps2 (α := Int32) (x1 + 1) (fun v40 ev40 => ?_)
        have zv40 : v40.toInt = (x1.toInt + 1) := by rw [← ev40]; exact (xz_add (X := x1.toInt) (Y := 1) rfl (by decide) (by omega) (by omega)).trans (by omega)
        refine xi_iinc (pc' := 41) (x := x1) (v := v40) (lv' := [(1, .int v40), (0, .ref 115)]) kc_43_38 rfl rfl ev40 rfl (xm_lt ml_43 rfl) ?_
        refine xi_goto (pc' := 19) kc_43_41 rfl ?_
        refine xw_lv (b := [(0, .ref 115), (1, .int v40)]) (lvS_cons (lvS_cons (lvS_nil (show ([1, 0] : List Nat).Nodup by decide)) rfl) rfl) ?_
        exact i0 v40 hh38 (by omega) K39 (by omega)
    · refine xi_cmf (pc' := 10) kc_42_7 rfl (xc_ge_f (X := u5.toInt) (Y := 6) rfl (by decide) (by omega)) ?_
      refine xi_aload_n (pc' := 11) (x := 115) kc_42_10 rfl rfl ?_
      refine xi_getfield (pc' := 14) (v := .int u5) kc_42_11 rfl rfl rfl A14 rfl ?_
      refine xi_goto (pc' := 19) kc_42_14 rfl ?_
      refine xcps2 (α := Int32) ((1 : Int32) <<< (u5 &&& 31)) (fun v41 ev41 => ?_)
      have rv41 := xc_rng v41
      have bv41 : 1 ≤ v41.toInt ∧ v41.toInt ≤ 64 := by rw [← ev41]; exact xj_shl6 (by omega) (by omega)
      refine xi_ishl (pc' := 20) (v := v41) kc_42_19 rfl ev41 ?_
      refine xi_ireturn kc_42_20 mr_42 rfl ?_
      show xw J ov (d + 6) 43 (24, [(0, .ref 115), (1, .int x1)], [.int v41, .int x1], h) _
      by_cases c42 : v41.toInt ≤ x1.toInt
      · refine xi_cmt (pc' := 44) kc_43_24 rfl (xc_ge_t (X := x1.toInt) (Y := v41.toInt) rfl rfl (by omega)) ?_
        refine xi_return kc_43_44 mr_43 ?_
        exact kk h K
      · refine xi_cmf (pc' := 27) kc_43_24 rfl (xc_ge_f (X := x1.toInt) (Y := v41.toInt) rfl rfl (by omega)) ?_
        refine xi_aload_n (pc' := 28) (x := 115) kc_43_27 rfl rfl ?_
        refine xi_getfield (pc' := 31) (v := .ref 149) kc_43_28 rfl rfl rfl A14 rfl ?_
        refine xi_iload_n (pc' := 32) (x := x1) kc_43_31 rfl rfl ?_
        refine xi_aload_n (pc' := 33) (x := 115) kc_43_32 rfl rfl ?_
        refine xi_iload_n (pc' := 34) (x := x1) kc_43_33 rfl rfl ?_
        refine xi_virtual (mj := 45) (as := [.int x1]) (st1 := [.int x1, .ref 149]) (lv0 := [(0, .ref 115), (1, .int x1)]) kc_43_34 rfl rfl rfl rfl rfl A14 (Nat.le_of_ble_eq_true rfl) (hJ _ _ _ _ (by decide)) (xm_le ml_45 rfl) rfl ?_
        refine mt_45_0 hJ hov1 hov2 (d := d) (x1 := x1) K.1 (by first | omega | decide) (fun r43 hh44 K45 => ?_)
        have K46 := xk_tr K K45 rfl
        refine xp_115 K46.1 (fun u47 u48 u49 u50 u51 u52 u53 u54 u55 u56 u57 u58 u59 bu47 bu48 bu49 bu50 bu51 bu52 bu53 bu54 bu55 bu56 bu57 bu58 bu59 A60 => ?_)
        have e61 : u2 = u48 := xk_eqi (q := 1) K45 rfl A14 A60 rfl rfl
        subst e61
        have e62 : u4 = u50 := xk_eqi (q := 18) K45 rfl A14 A60 rfl rfl
        subst e62
        show xw J ov (d + 6) 43 (37, [(0, .ref 115), (1, .int x1)], [.long r43, .int x1, .ref 149], hh44) _
        obtain ⟨y63, A63, hy63⟩ := xk_larr K46.1 xD_149
        obtain ⟨y64, s64, hy64⟩ := xj_lset (v := r43) hy63 x1
        refine xi_lastore (pc' := 38) (x' := y64) kc_43_37 rfl A63 rfl (xi_in (by omega) (by rw [hy63]; omega)) s64 (fun hh64 eh64 => ?_)
        have K65 := xk_pla K46 (xk_wa rfl) xD_149 hy64 eh64
        refine xcps2 (α := Int32) (x1 + 1) (fun v66 ev66 => ?_)
        have zv66 : v66.toInt = (x1.toInt + 1) := by rw [← ev66]; exact (xz_add (X := x1.toInt) (Y := 1) rfl (by decide) (by omega) (by omega)).trans (by omega)
        refine xi_iinc (pc' := 41) (x := x1) (v := v66) (lv' := [(1, .int v66), (0, .ref 115)]) kc_43_38 rfl rfl ev66 rfl (xm_lt ml_43 rfl) ?_
        refine xi_goto (pc' := 19) kc_43_41 rfl ?_
        refine xw_lv (b := [(0, .ref 115), (1, .int v66)]) (lvS_cons (lvS_cons (lvS_nil (show ([1, 0] : List Nat).Nodup by decide)) rfl) rfl) ?_
        exact i0 v66 hh64 (by omega) K65 (by omega)
set_option maxHeartbeats 4000000 in
theorem mt_43_0 {J : xe_J} {ov : List (List Int32)} (hJ : ∀ d mj as h, mj ≠ xe_loff → J d mj as h = none) (hov1 : ov[1]? = some [10, 0, 0, 0, 0, 0]) (hov2 : ov[2]? = some [99, 30, 50, 50, 1, 99999]) {d : Nat} {Q : Option Value → xe_H → Prop} {h : xe_H} (T : xt h) (kk : (∀ h' : xe_H, xk [(0, 9), (115, 1), (83, 0), (29, 0), (31, 0), (33, 0), (35, 0), (37, 0), (39, 0), (41, 0), (43, 0), (45, 0), (47, 0), (49, 0), (51, 0), (125, 0), (66, 8), (115, 18), (71, 0), (132, 0)] h h' → Q none h')) : xw J ov (d + 6) 43 (0, [(0, .ref 115)], [], h) Q := by
  have K : xk [(0, 9), (115, 1), (83, 0), (29, 0), (31, 0), (33, 0), (35, 0), (37, 0), (39, 0), (41, 0), (43, 0), (45, 0), (47, 0), (49, 0), (51, 0), (125, 0), (66, 8), (115, 18), (71, 0), (132, 0)] h h := xk_re T
  refine xi_aload_n (pc' := 1) (x := 115) kc_43_0 rfl rfl ?_
  refine xp_115 K.1 (fun u1 u2 u3 u4 u5 u6 u7 u8 u9 u10 u11 u12 u13 bu1 bu2 bu3 bu4 bu5 bu6 bu7 bu8 bu9 bu10 bu11 bu12 bu13 A14 => ?_)
  refine xi_getfield (pc' := 4) (v := .int u9) kc_43_1 rfl rfl rfl A14 rfl ?_
  by_cases c15 : u9.toInt = 0
  · refine xi_ift (pc' := 8) kc_43_4 rfl (xc_eq_t (X := u9.toInt) (Y := 0) rfl (by decide) (by omega)) ?_
    refine xi_aload_n (pc' := 9) (x := 115) kc_43_8 rfl rfl ?_
    refine xi_iconst (pc' := 10) (v := 1) kc_43_9 rfl rfl ?_
    refine xi_putfield (pc' := 13) (fs' := [.int u1, .int u2, .ref 116, .ref 117, .ref 118, .ref 119, .ref 120, .ref 121, .ref 122, .ref 123, .ref 124, .ref 125, .ref 126, .ref 127, .ref 128, .ref 129, .int u3, .ref 130, .int u4, .ref 131, .ref 132, .ref 133, .ref 134, .int u5, .ref 135, .ref 136, .ref 137, .ref 138, .ref 139, .ref 140, .ref 141, .ref 142, .int u6, .int u7, .int u8, .ref 143, .ref 144, .ref 145, .ref 146, .ref 147, .ref 148, .int 1, .ref 149, .ref 150, .ref 151, .int u10, .ref 152, .ref 153, .ref 154, .ref 155, .ref 156, .ref 157, .ref 158, .ref 159, .int u11, .ref 160, .int u12, .ref 161, .ref 162, .ref 163, .ref 164, .int u13, .ref 165, .ref 166]) kc_43_10 rfl rfl rfl A14 rfl rfl rfl (Nat.le_of_ble_eq_true rfl) rfl (fun hh17 eh16 => ?_)
    have K18 := xk_pf (k := 41) (v := 1) K (xk_wf rfl) xD_115 A14 rfl (by first | omega | decide) (by first | omega | decide) eh16 rfl
    refine xi_aload_n (pc' := 14) (x := 115) kc_43_13 rfl rfl ?_
    refine xi_virtual (mj := 44) (as := []) (st1 := []) (lv0 := [(0, .ref 115)]) kc_43_14 rfl rfl rfl rfl rfl eh16.1 (Nat.le_of_ble_eq_true rfl) (hJ _ _ _ _ (by decide)) (xm_le ml_44 rfl) rfl ?_
    refine mt_44_0 hJ hov1 hov2 (d := d + 4)  K18.1 (fun hh20 K21 => ?_)
    have K22 := xk_tr K18 K21 rfl
    refine xp_115 K22.1 (fun u23 u24 u25 u26 u27 u28 u29 u30 u31 u32 u33 u34 u35 bu23 bu24 bu25 bu26 bu27 bu28 bu29 bu30 bu31 bu32 bu33 bu34 bu35 A36 => ?_)
    have e37 : u2 = u24 := xk_eqi (q := 1) K21 rfl eh16.1 A36 rfl rfl
    subst e37
    have e38 : u4 = u26 := xk_eqi (q := 18) K21 rfl eh16.1 A36 rfl rfl
    subst e38
    show xw J ov (d + 6) 43 (17, [(0, .ref 115)], [], hh20) _
    refine xi_iconst (pc' := 18) (v := 0) kc_43_17 rfl rfl ?_
    refine xi_istore_n (pc' := 19) (lv' := [(1, .int 0), (0, .ref 115)]) kc_43_18 rfl rfl (xm_lt ml_43 rfl) ?_
    have zc0 : (0 : Int32).toInt = 0 := by decide
    refine xw_lv (b := [(0, .ref 115), (1, .int 0)]) (lvS_cons (lvS_cons (lvS_nil (show ([1, 0] : List Nat).Nodup by decide)) rfl) rfl) ?_
    exact (lp_43_0 hJ hov1 hov2 (d := d) (hb := hh20) (fun h9 K9 => kk h9 (xk_tr K22 K9 rfl)) 65) 0 hh20 (by omega) (xk_re K22.1) (by omega)
  · refine xi_iff (pc' := 7) kc_43_4 rfl (xc_eq_f (X := u9.toInt) (Y := 0) rfl (by decide) (by omega)) ?_
    refine xi_return kc_43_7 mr_43 ?_
    exact kk h K
set_option maxHeartbeats 4000000 in
theorem mt_41_0 {J : xe_J} {ov : List (List Int32)} (hJ : ∀ d mj as h, mj ≠ xe_loff → J d mj as h = none) (hov1 : ov[1]? = some [10, 0, 0, 0, 0, 0]) (hov2 : ov[2]? = some [99, 30, 50, 50, 1, 99999]) {d : Nat} {Q : Option Value → xe_H → Prop} {h : xe_H} {x1 : Int32} (T : xt h) (kk : (∀ (r : Int64) (h' : xe_H), xk [(0, 9), (115, 1), (83, 0), (29, 0), (31, 0), (33, 0), (35, 0), (37, 0), (39, 0), (41, 0), (43, 0), (45, 0), (47, 0), (49, 0), (51, 0), (125, 0), (66, 8), (115, 18), (71, 0), (132, 0)] h h' → Q (some (.long r)) h')) : xw J ov (d + 7) 41 (0, [(0, .ref 115), (1, .int x1)], [], h) Q := by
  have K : xk [(0, 9), (115, 1), (83, 0), (29, 0), (31, 0), (33, 0), (35, 0), (37, 0), (39, 0), (41, 0), (43, 0), (45, 0), (47, 0), (49, 0), (51, 0), (125, 0), (66, 8), (115, 18), (71, 0), (132, 0)] h h := xk_re T
  have rx1 := xc_rng x1
  refine xi_aload_n (pc' := 1) (x := 115) kc_41_0 rfl rfl ?_
  refine xi_iload_n (pc' := 2) (x := x1) kc_41_1 rfl rfl ?_
  refine xi_iconst (pc' := 3) (v := 0) kc_41_2 rfl rfl ?_
  refine xi_aload_n (pc' := 4) (x := 115) kc_41_3 rfl rfl ?_
  refine xp_115 K.1 (fun u1 u2 u3 u4 u5 u6 u7 u8 u9 u10 u11 u12 u13 bu1 bu2 bu3 bu4 bu5 bu6 bu7 bu8 bu9 bu10 bu11 bu12 bu13 A14 => ?_)
  refine xi_virtual (mj := 42) (as := []) (st1 := [.int 0, .int x1, .ref 115]) (lv0 := [(0, .ref 115)]) kc_41_4 rfl rfl rfl rfl rfl A14 (Nat.le_of_ble_eq_true rfl) (hJ _ _ _ _ (by decide)) (xm_le ml_42 rfl) rfl ?_
  refine xi_iconst (pc' := 1) (v := 1) kc_42_0 rfl rfl ?_
  refine xi_aload_n (pc' := 2) (x := 115) kc_42_1 rfl rfl ?_
  refine xi_getfield (pc' := 5) (v := .int u5) kc_42_2 rfl rfl rfl A14 rfl ?_
  refine xi_bipush (pc' := 7) (v := 6) kc_42_5 rfl rfl ?_
  by_cases c15 : 6 ≤ u5.toInt
  · refine xi_cmt (pc' := 17) kc_42_7 rfl (xc_ge_t (X := u5.toInt) (Y := 6) rfl (by decide) (by omega)) ?_
    refine xi_bipush (pc' := 19) (v := 6) kc_42_17 rfl rfl ?_
    refine xi_ishl (pc' := 20) (v := 64) kc_42_19 rfl rfl ?_
    refine xi_ireturn kc_42_20 mr_42 rfl ?_
    show xw J ov (d + 7) 41 (7, [(0, .ref 115), (1, .int x1)], [.int 64, .int 0, .int x1, .ref 115], h) _
    refine xi_iconst (pc' := 8) (v := 1) kc_41_7 rfl rfl ?_
    refine xi_isub (pc' := 9) (v := 63) kc_41_8 rfl rfl ?_
    refine xi_static (mj := 11) (as := [.int x1, .int 0, .int 63]) (st1 := [.ref 115]) (lv0 := [(0, .int x1), (1, .int 0), (2, .int 63)]) kc_41_9 rfl rfl (Nat.le_of_ble_eq_true rfl) rfl rfl (Nat.le_of_ble_eq_true rfl) (hJ _ _ _ _ (by decide)) (xm_le ml_11 rfl) rfl ?_
    refine xi_iload_n (pc' := 1) (x := x1) kc_11_0 rfl rfl ?_
    refine xi_iload_n (pc' := 2) (x := 0) kc_11_1 rfl rfl ?_
    by_cases c16 : x1.toInt < 0
    · refine xi_cmt (pc' := 14) kc_11_2 rfl (xc_lt_t (X := x1.toInt) (Y := 0) rfl (by decide) (by omega)) ?_
      refine xi_iconst (pc' := 15) (v := 0) kc_11_14 rfl rfl ?_
      refine xi_ireturn kc_11_15 mr_11 rfl ?_
      show xw J ov (d + 7) 41 (12, [(0, .ref 115), (1, .int x1)], [.int 0, .ref 115], h) _
      refine xi_ift (pc' := 19) kc_41_12 rfl rfl ?_
      refine xi_iconst (pc' := 20) (v := 1) kc_41_19 rfl rfl ?_
      refine xi_putfield (pc' := 23) (fs' := [.int 1, .int u2, .ref 116, .ref 117, .ref 118, .ref 119, .ref 120, .ref 121, .ref 122, .ref 123, .ref 124, .ref 125, .ref 126, .ref 127, .ref 128, .ref 129, .int u3, .ref 130, .int u4, .ref 131, .ref 132, .ref 133, .ref 134, .int u5, .ref 135, .ref 136, .ref 137, .ref 138, .ref 139, .ref 140, .ref 141, .ref 142, .int u6, .int u7, .int u8, .ref 143, .ref 144, .ref 145, .ref 146, .ref 147, .ref 148, .int u9, .ref 149, .ref 150, .ref 151, .int u10, .ref 152, .ref 153, .ref 154, .ref 155, .ref 156, .ref 157, .ref 158, .ref 159, .int u11, .ref 160, .int u12, .ref 161, .ref 162, .ref 163, .ref 164, .int u13, .ref 165, .ref 166]) kc_41_20 rfl rfl rfl A14 rfl rfl rfl (Nat.le_of_ble_eq_true rfl) rfl (fun hh18 eh17 => ?_)
      have K19 := xk_pf (k := 0) (v := 1) K (xk_wf rfl) xD_115 A14 rfl (by first | omega | decide) (by first | omega | decide) eh17 rfl
      refine xi_aload_n (pc' := 24) (x := 115) kc_41_23 rfl rfl ?_
      refine xi_getfield (pc' := 27) (v := .int 1) kc_41_24 rfl rfl rfl eh17.1 rfl ?_
      refine xi_iff (pc' := 30) kc_41_27 rfl rfl ?_
      refine xi_lconst (pc' := 31) (v := 0) kc_41_30 rfl rfl ?_
      refine xi_lreturn kc_41_31 mr_41 ?_
      exact kk 0 hh18 K19
    · refine xi_cmf (pc' := 5) kc_11_2 rfl (xc_lt_f (X := x1.toInt) (Y := 0) rfl (by decide) (by omega)) ?_
      refine xi_iload_n (pc' := 6) (x := x1) kc_11_5 rfl rfl ?_
      refine xi_iload_n (pc' := 7) (x := 63) kc_11_6 rfl rfl ?_
      by_cases c20 : 63 < x1.toInt
      · refine xi_cmt (pc' := 14) kc_11_7 rfl (xc_gt_t (X := x1.toInt) (Y := 63) rfl (by decide) (by omega)) ?_
        refine xi_iconst (pc' := 15) (v := 0) kc_11_14 rfl rfl ?_
        refine xi_ireturn kc_11_15 mr_11 rfl ?_
        show xw J ov (d + 7) 41 (12, [(0, .ref 115), (1, .int x1)], [.int 0, .ref 115], h) _
        refine xi_ift (pc' := 19) kc_41_12 rfl rfl ?_
        refine xi_iconst (pc' := 20) (v := 1) kc_41_19 rfl rfl ?_
        refine xi_putfield (pc' := 23) (fs' := [.int 1, .int u2, .ref 116, .ref 117, .ref 118, .ref 119, .ref 120, .ref 121, .ref 122, .ref 123, .ref 124, .ref 125, .ref 126, .ref 127, .ref 128, .ref 129, .int u3, .ref 130, .int u4, .ref 131, .ref 132, .ref 133, .ref 134, .int u5, .ref 135, .ref 136, .ref 137, .ref 138, .ref 139, .ref 140, .ref 141, .ref 142, .int u6, .int u7, .int u8, .ref 143, .ref 144, .ref 145, .ref 146, .ref 147, .ref 148, .int u9, .ref 149, .ref 150, .ref 151, .int u10, .ref 152, .ref 153, .ref 154, .ref 155, .ref 156, .ref 157, .ref 158, .ref 159, .int u11, .ref 160, .int u12, .ref 161, .ref 162, .ref 163, .ref 164, .int u13, .ref 165, .ref 166]) kc_41_20 rfl rfl rfl A14 rfl rfl rfl (Nat.le_of_ble_eq_true rfl) rfl (fun hh22 eh21 => ?_)
        have K23 := xk_pf (k := 0) (v := 1) K (xk_wf rfl) xD_115 A14 rfl (by first | omega | decide) (by first | omega | decide) eh21 rfl
        refine xi_aload_n (pc' := 24) (x := 115) kc_41_23 rfl rfl ?_
        refine xi_getfield (pc' := 27) (v := .int 1) kc_41_24 rfl rfl rfl eh21.1 rfl ?_
        refine xi_iff (pc' := 30) kc_41_27 rfl rfl ?_
        refine xi_lconst (pc' := 31) (v := 0) kc_41_30 rfl rfl ?_
        refine xi_lreturn kc_41_31 mr_41 ?_
        exact kk 0 hh22 K23
      · refine xi_cmf (pc' := 10) kc_11_7 rfl (xc_gt_f (X := x1.toInt) (Y := 63) rfl (by decide) (by omega)) ?_
        refine xi_iconst (pc' := 11) (v := 1) kc_11_10 rfl rfl ?_
        refine xi_goto (pc' := 15) kc_11_11 rfl ?_
        refine xi_ireturn kc_11_15 mr_11 rfl ?_
        show xw J ov (d + 7) 41 (12, [(0, .ref 115), (1, .int x1)], [.int 1, .ref 115], h) _
        refine xi_iff (pc' := 15) kc_41_12 rfl rfl ?_
        refine xi_iconst (pc' := 16) (v := 0) kc_41_15 rfl rfl ?_
        refine xi_goto (pc' := 20) kc_41_16 rfl ?_
        refine xi_putfield (pc' := 23) (fs' := [.int 0, .int u2, .ref 116, .ref 117, .ref 118, .ref 119, .ref 120, .ref 121, .ref 122, .ref 123, .ref 124, .ref 125, .ref 126, .ref 127, .ref 128, .ref 129, .int u3, .ref 130, .int u4, .ref 131, .ref 132, .ref 133, .ref 134, .int u5, .ref 135, .ref 136, .ref 137, .ref 138, .ref 139, .ref 140, .ref 141, .ref 142, .int u6, .int u7, .int u8, .ref 143, .ref 144, .ref 145, .ref 146, .ref 147, .ref 148, .int u9, .ref 149, .ref 150, .ref 151, .int u10, .ref 152, .ref 153, .ref 154, .ref 155, .ref 156, .ref 157, .ref 158, .ref 159, .int u11, .ref 160, .int u12, .ref 161, .ref 162, .ref 163, .ref 164, .int u13, .ref 165, .ref 166]) kc_41_20 rfl rfl rfl A14 rfl rfl rfl (Nat.le_of_ble_eq_true rfl) rfl (fun hh25 eh24 => ?_)
        have K26 := xk_pf (k := 0) (v := 0) K (xk_wf rfl) xD_115 A14 rfl (by first | omega | decide) (by first | omega | decide) eh24 rfl
        refine xi_aload_n (pc' := 24) (x := 115) kc_41_23 rfl rfl ?_
        refine xi_getfield (pc' := 27) (v := .int 0) kc_41_24 rfl rfl rfl eh24.1 rfl ?_
        refine xi_ift (pc' := 32) kc_41_27 rfl rfl ?_
        refine xi_aload_n (pc' := 33) (x := 115) kc_41_32 rfl rfl ?_
        refine xi_virtual (mj := 43) (as := []) (st1 := []) (lv0 := [(0, .ref 115)]) kc_41_33 rfl rfl rfl rfl rfl eh24.1 (Nat.le_of_ble_eq_true rfl) (hJ _ _ _ _ (by decide)) (xm_le ml_43 rfl) rfl ?_
        refine mt_43_0 hJ hov1 hov2 (d := d)  K26.1 (fun hh28 K29 => ?_)
        have K30 := xk_tr K26 K29 rfl
        refine xp_115 K30.1 (fun u31 u32 u33 u34 u35 u36 u37 u38 u39 u40 u41 u42 u43 bu31 bu32 bu33 bu34 bu35 bu36 bu37 bu38 bu39 bu40 bu41 bu42 bu43 A44 => ?_)
        have e45 : u2 = u32 := xk_eqi (q := 1) K29 rfl eh24.1 A44 rfl rfl
        subst e45
        have e46 : u4 = u34 := xk_eqi (q := 18) K29 rfl eh24.1 A44 rfl rfl
        subst e46
        show xw J ov (d + 7) 41 (36, [(0, .ref 115), (1, .int x1)], [], hh28) _
        refine xi_aload_n (pc' := 37) (x := 115) kc_41_36 rfl rfl ?_
        refine xi_getfield (pc' := 40) (v := .ref 149) kc_41_37 rfl rfl rfl A44 rfl ?_
        refine xi_iload_n (pc' := 41) (x := x1) kc_41_40 rfl rfl ?_
        obtain ⟨y47, A47, hy47⟩ := xk_larr K30.1 xD_149
        refine xcps2 (α := Int64) (y47.getD (Int32.toNatClampNeg x1) 0) (fun v48 ev48 => ?_)
        refine xi_laload (pc' := 42) (v := v48) kc_41_41 rfl A47 rfl (xi_in (by omega) (by rw [hy47]; omega)) ev48 ?_
        refine xi_lreturn kc_41_42 mr_41 ?_
        exact kk v48 hh28 K30
  · refine xi_cmf (pc' := 10) kc_42_7 rfl (xc_ge_f (X := u5.toInt) (Y := 6) rfl (by decide) (by omega)) ?_
    refine xi_aload_n (pc' := 11) (x := 115) kc_42_10 rfl rfl ?_
    refine xi_getfield (pc' := 14) (v := .int u5) kc_42_11 rfl rfl rfl A14 rfl ?_
    refine xi_goto (pc' := 19) kc_42_14 rfl ?_
    refine xcps2 (α := Int32) ((1 : Int32) <<< (u5 &&& 31)) (fun v49 ev49 => ?_)
    have rv49 := xc_rng v49
    have bv49 : 1 ≤ v49.toInt ∧ v49.toInt ≤ 64 := by rw [← ev49]; exact xj_shl6 (by omega) (by omega)
    refine xi_ishl (pc' := 20) (v := v49) kc_42_19 rfl ev49 ?_
    refine xi_ireturn kc_42_20 mr_42 rfl ?_
    show xw J ov (d + 7) 41 (7, [(0, .ref 115), (1, .int x1)], [.int v49, .int 0, .int x1, .ref 115], h) _
    refine xi_iconst (pc' := 8) (v := 1) kc_41_7 rfl rfl ?_
    refine xcps2 (α := Int32) (v49 - 1) (fun v50 ev50 => ?_)
    have zv50 : v50.toInt = (v49.toInt + (-1)) := by rw [← ev50]; exact (xz_sub (X := v49.toInt) (Y := 1) rfl (by decide) (by omega) (by omega)).trans (by omega)
    refine xi_isub (pc' := 9) (v := v50) kc_41_8 rfl ev50 ?_
    refine xi_static (mj := 11) (as := [.int x1, .int 0, .int v50]) (st1 := [.ref 115]) (lv0 := [(0, .int x1), (1, .int 0), (2, .int v50)]) kc_41_9 rfl rfl (Nat.le_of_ble_eq_true rfl) rfl rfl (Nat.le_of_ble_eq_true rfl) (hJ _ _ _ _ (by decide)) (xm_le ml_11 rfl) rfl ?_
    refine xi_iload_n (pc' := 1) (x := x1) kc_11_0 rfl rfl ?_
    refine xi_iload_n (pc' := 2) (x := 0) kc_11_1 rfl rfl ?_
    by_cases c51 : x1.toInt < 0
    · refine xi_cmt (pc' := 14) kc_11_2 rfl (xc_lt_t (X := x1.toInt) (Y := 0) rfl (by decide) (by omega)) ?_
      refine xi_iconst (pc' := 15) (v := 0) kc_11_14 rfl rfl ?_
      refine xi_ireturn kc_11_15 mr_11 rfl ?_
      show xw J ov (d + 7) 41 (12, [(0, .ref 115), (1, .int x1)], [.int 0, .ref 115], h) _
      refine xi_ift (pc' := 19) kc_41_12 rfl rfl ?_
      refine xi_iconst (pc' := 20) (v := 1) kc_41_19 rfl rfl ?_
      refine xi_putfield (pc' := 23) (fs' := [.int 1, .int u2, .ref 116, .ref 117, .ref 118, .ref 119, .ref 120, .ref 121, .ref 122, .ref 123, .ref 124, .ref 125, .ref 126, .ref 127, .ref 128, .ref 129, .int u3, .ref 130, .int u4, .ref 131, .ref 132, .ref 133, .ref 134, .int u5, .ref 135, .ref 136, .ref 137, .ref 138, .ref 139, .ref 140, .ref 141, .ref 142, .int u6, .int u7, .int u8, .ref 143, .ref 144, .ref 145, .ref 146, .ref 147, .ref 148, .int u9, .ref 149, .ref 150, .ref 151, .int u10, .ref 152, .ref 153, .ref 154, .ref 155, .ref 156, .ref 157, .ref 158, .ref 159, .int u11, .ref 160, .int u12, .ref 161, .ref 162, .ref 163, .ref 164, .int u13, .ref 165, .ref 166]) kc_41_20 rfl rfl rfl A14 rfl rfl rfl (Nat.le_of_ble_eq_true rfl) rfl (fun hh53 eh52 => ?_)
      have K54 := xk_pf (k := 0) (v := 1) K (xk_wf rfl) xD_115 A14 rfl (by first | omega | decide) (by first | omega | decide) eh52 rfl
      refine xi_aload_n (pc' := 24) (x := 115) kc_41_23 rfl rfl ?_
      refine xi_getfield (pc' := 27) (v := .int 1) kc_41_24 rfl rfl rfl eh52.1 rfl ?_
      refine xi_iff (pc' := 30) kc_41_27 rfl rfl ?_
      refine xi_lconst (pc' := 31) (v := 0) kc_41_30 rfl rfl ?_
      refine xi_lreturn kc_41_31 mr_41 ?_
      exact kk 0 hh53 K54
    · refine xi_cmf (pc' := 5) kc_11_2 rfl (xc_lt_f (X := x1.toInt) (Y := 0) rfl (by decide) (by omega)) ?_
      refine xi_iload_n (pc' := 6) (x := x1) kc_11_5 rfl rfl ?_
      refine xi_iload_n (pc' := 7) (x := v50) kc_11_6 rfl rfl ?_
      by_cases c55 : (v49.toInt + (-1)) < x1.toInt
      · refine xi_cmt (pc' := 14) kc_11_7 rfl (xc_gt_t (X := x1.toInt) (Y := (v49.toInt + (-1))) rfl zv50 (by omega)) ?_
        refine xi_iconst (pc' := 15) (v := 0) kc_11_14 rfl rfl ?_
        refine xi_ireturn kc_11_15 mr_11 rfl ?_
        show xw J ov (d + 7) 41 (12, [(0, .ref 115), (1, .int x1)], [.int 0, .ref 115], h) _
        refine xi_ift (pc' := 19) kc_41_12 rfl rfl ?_
        refine xi_iconst (pc' := 20) (v := 1) kc_41_19 rfl rfl ?_
        refine xi_putfield (pc' := 23) (fs' := [.int 1, .int u2, .ref 116, .ref 117, .ref 118, .ref 119, .ref 120, .ref 121, .ref 122, .ref 123, .ref 124, .ref 125, .ref 126, .ref 127, .ref 128, .ref 129, .int u3, .ref 130, .int u4, .ref 131, .ref 132, .ref 133, .ref 134, .int u5, .ref 135, .ref 136, .ref 137, .ref 138, .ref 139, .ref 140, .ref 141, .ref 142, .int u6, .int u7, .int u8, .ref 143, .ref 144, .ref 145, .ref 146, .ref 147, .ref 148, .int u9, .ref 149, .ref 150, .ref 151, .int u10, .ref 152, .ref 153, .ref 154, .ref 155, .ref 156, .ref 157, .ref 158, .ref 159, .int u11, .ref 160, .int u12, .ref 161, .ref 162, .ref 163, .ref 164, .int u13, .ref 165, .ref 166]) kc_41_20 rfl rfl rfl A14 rfl rfl rfl (Nat.le_of_ble_eq_true rfl) rfl (fun hh57 eh56 => ?_)
        have K58 := xk_pf (k := 0) (v := 1) K (xk_wf rfl) xD_115 A14 rfl (by first | omega | decide) (by first | omega | decide) eh56 rfl
        refine xi_aload_n (pc' := 24) (x := 115) kc_41_23 rfl rfl ?_
        refine xi_getfield (pc' := 27) (v := .int 1) kc_41_24 rfl rfl rfl eh56.1 rfl ?_
        refine xi_iff (pc' := 30) kc_41_27 rfl rfl ?_
        refine xi_lconst (pc' := 31) (v := 0) kc_41_30 rfl rfl ?_
        refine xi_lreturn kc_41_31 mr_41 ?_
        exact kk 0 hh57 K58
      · refine xi_cmf (pc' := 10) kc_11_7 rfl (xc_gt_f (X := x1.toInt) (Y := (v49.toInt + (-1))) rfl zv50 (by omega)) ?_
        refine xi_iconst (pc' := 11) (v := 1) kc_11_10 rfl rfl ?_
        refine xi_goto (pc' := 15) kc_11_11 rfl ?_
        refine xi_ireturn kc_11_15 mr_11 rfl ?_
        show xw J ov (d + 7) 41 (12, [(0, .ref 115), (1, .int x1)], [.int 1, .ref 115], h) _
        refine xi_iff (pc' := 15) kc_41_12 rfl rfl ?_
        refine xi_iconst (pc' := 16) (v := 0) kc_41_15 rfl rfl ?_
        refine xi_goto (pc' := 20) kc_41_16 rfl ?_
        refine xi_putfield (pc' := 23) (fs' := [.int 0, .int u2, .ref 116, .ref 117, .ref 118, .ref 119, .ref 120, .ref 121, .ref 122, .ref 123, .ref 124, .ref 125, .ref 126, .ref 127, .ref 128, .ref 129, .int u3, .ref 130, .int u4, .ref 131, .ref 132, .ref 133, .ref 134, .int u5, .ref 135, .ref 136, .ref 137, .ref 138, .ref 139, .ref 140, .ref 141, .ref 142, .int u6, .int u7, .int u8, .ref 143, .ref 144, .ref 145, .ref 146, .ref 147, .ref 148, .int u9, .ref 149, .ref 150, .ref 151, .int u10, .ref 152, .ref 153, .ref 154, .ref 155, .ref 156, .ref 157, .ref 158, .ref 159, .int u11, .ref 160, .int u12, .ref 161, .ref 162, .ref 163, .ref 164, .int u13, .ref 165, .ref 166]) kc_41_20 rfl rfl rfl A14 rfl rfl rfl (Nat.le_of_ble_eq_true rfl) rfl (fun hh60 eh59 => ?_)
        have K61 := xk_pf (k := 0) (v := 0) K (xk_wf rfl) xD_115 A14 rfl (by first | omega | decide) (by first | omega | decide) eh59 rfl
        refine xi_aload_n (pc' := 24) (x := 115) kc_41_23 rfl rfl ?_
        refine xi_getfield (pc' := 27) (v := .int 0) kc_41_24 rfl rfl rfl eh59.1 rfl ?_
        refine xi_ift (pc' := 32) kc_41_27 rfl rfl ?_
        refine xi_aload_n (pc' := 33) (x := 115) kc_41_32 rfl rfl ?_
        refine xi_virtual (mj := 43) (as := []) (st1 := []) (lv0 := [(0, .ref 115)]) kc_41_33 rfl rfl rfl rfl rfl eh59.1 (Nat.le_of_ble_eq_true rfl) (hJ _ _ _ _ (by decide)) (xm_le ml_43 rfl) rfl ?_
        refine mt_43_0 hJ hov1 hov2 (d := d)  K61.1 (fun hh63 K64 => ?_)
        have K65 := xk_tr K61 K64 rfl
        refine xp_115 K65.1 (fun u66 u67 u68 u69 u70 u71 u72 u73 u74 u75 u76 u77 u78 bu66 bu67 bu68 bu69 bu70 bu71 bu72 bu73 bu74 bu75 bu76 bu77 bu78 A79 => ?_)
        have e80 : u2 = u67 := xk_eqi (q := 1) K64 rfl eh59.1 A79 rfl rfl
        subst e80
        have e81 : u4 = u69 := xk_eqi (q := 18) K64 rfl eh59.1 A79 rfl rfl
        subst e81
        show xw J ov (d + 7) 41 (36, [(0, .ref 115), (1, .int x1)], [], hh63) _
        refine xi_aload_n (pc' := 37) (x := 115) kc_41_36 rfl rfl ?_
        refine xi_getfield (pc' := 40) (v := .ref 149) kc_41_37 rfl rfl rfl A79 rfl ?_
        refine xi_iload_n (pc' := 41) (x := x1) kc_41_40 rfl rfl ?_
        obtain ⟨y82, A82, hy82⟩ := xk_larr K65.1 xD_149
        refine xcps2 (α := Int64) (y82.getD (Int32.toNatClampNeg x1) 0) (fun v83 ev83 => ?_)
        refine xi_laload (pc' := 42) (v := v83) kc_41_41 rfl A82 rfl (xi_in (by omega) (by rw [hy82]; omega)) ev83 ?_
        refine xi_lreturn kc_41_42 mr_41 ?_
        exact kk v83 hh63 K65
set_option maxHeartbeats 4000000 in
theorem mt_46_0 {J : xe_J} {ov : List (List Int32)} (hJ : ∀ d mj as h, mj ≠ xe_loff → J d mj as h = none) (hov1 : ov[1]? = some [10, 0, 0, 0, 0, 0]) (hov2 : ov[2]? = some [99, 30, 50, 50, 1, 99999]) {d : Nat} {Q : Option Value → xe_H → Prop} {h : xe_H} {x1 : Int32} {x2 : Int32} (T : xt h) (kk : (∀ (r : Int32) (h' : xe_H), xk [(0, 9), (115, 1), (83, 0), (29, 0), (31, 0), (33, 0), (35, 0), (37, 0), (39, 0), (41, 0), (43, 0), (45, 0), (47, 0), (49, 0), (51, 0), (125, 0), (66, 8), (115, 18), (71, 0), (132, 0)] h h' → Q (some (.int r)) h')) : xw J ov (d + 6) 46 (0, [(0, .ref 115), (1, .int x1), (2, .int x2)], [], h) Q := by
  have K : xk [(0, 9), (115, 1), (83, 0), (29, 0), (31, 0), (33, 0), (35, 0), (37, 0), (39, 0), (41, 0), (43, 0), (45, 0), (47, 0), (49, 0), (51, 0), (125, 0), (66, 8), (115, 18), (71, 0), (132, 0)] h h := xk_re T
  have rx1 := xc_rng x1
  have rx2 := xc_rng x2
  refine xi_aload_n (pc' := 1) (x := 115) kc_46_0 rfl rfl ?_
  refine xi_iconst (pc' := 2) (v := 0) kc_46_1 rfl rfl ?_
  refine xp_115 K.1 (fun u1 u2 u3 u4 u5 u6 u7 u8 u9 u10 u11 u12 u13 bu1 bu2 bu3 bu4 bu5 bu6 bu7 bu8 bu9 bu10 bu11 bu12 bu13 A14 => ?_)
  refine xi_putfield (pc' := 5) (fs' := [.int 0, .int u2, .ref 116, .ref 117, .ref 118, .ref 119, .ref 120, .ref 121, .ref 122, .ref 123, .ref 124, .ref 125, .ref 126, .ref 127, .ref 128, .ref 129, .int u3, .ref 130, .int u4, .ref 131, .ref 132, .ref 133, .ref 134, .int u5, .ref 135, .ref 136, .ref 137, .ref 138, .ref 139, .ref 140, .ref 141, .ref 142, .int u6, .int u7, .int u8, .ref 143, .ref 144, .ref 145, .ref 146, .ref 147, .ref 148, .int u9, .ref 149, .ref 150, .ref 151, .int u10, .ref 152, .ref 153, .ref 154, .ref 155, .ref 156, .ref 157, .ref 158, .ref 159, .int u11, .ref 160, .int u12, .ref 161, .ref 162, .ref 163, .ref 164, .int u13, .ref 165, .ref 166]) kc_46_2 rfl rfl rfl A14 rfl rfl rfl (Nat.le_of_ble_eq_true rfl) rfl (fun hh16 eh15 => ?_)
  have K17 := xk_pf (k := 0) (v := 0) K (xk_wf rfl) xD_115 A14 rfl (by first | omega | decide) (by first | omega | decide) eh15 rfl
  refine xi_aload_n (pc' := 6) (x := 115) kc_46_5 rfl rfl ?_
  refine xi_iload_n (pc' := 7) (x := x2) kc_46_6 rfl rfl ?_
  refine xi_virtual (mj := 31) (as := [.int x2]) (st1 := []) (lv0 := [(0, .ref 115), (1, .int x2)]) kc_46_7 rfl rfl rfl rfl rfl eh15.1 (Nat.le_of_ble_eq_true rfl) (hJ _ _ _ _ (by decide)) (xm_le ml_31 rfl) rfl ?_
  refine xi_iload_n (pc' := 1) (x := x2) kc_31_0 rfl rfl ?_
  refine xi_static (mj := 24) (as := [.int x2]) (st1 := []) (lv0 := [(0, .int x2)]) kc_31_1 rfl rfl (Nat.le_of_ble_eq_true rfl) rfl rfl (Nat.le_of_ble_eq_true rfl) (hJ _ _ _ _ (by decide)) (xm_le ml_24 rfl) rfl ?_
  refine xi_iload_n (pc' := 1) (x := x2) kc_24_0 rfl rfl ?_
  refine xi_iconst (pc' := 2) (v := 0) kc_24_1 rfl rfl ?_
  refine xi_bipush (pc' := 4) (v := 11) kc_24_2 rfl rfl ?_
  refine xi_static (mj := 11) (as := [.int x2, .int 0, .int 11]) (st1 := []) (lv0 := [(0, .int x2), (1, .int 0), (2, .int 11)]) kc_24_4 rfl rfl (Nat.le_of_ble_eq_true rfl) rfl rfl (Nat.le_of_ble_eq_true rfl) (hJ _ _ _ _ (by decide)) (xm_le ml_11 rfl) rfl ?_
  refine xi_iload_n (pc' := 1) (x := x2) kc_11_0 rfl rfl ?_
  refine xi_iload_n (pc' := 2) (x := 0) kc_11_1 rfl rfl ?_
  by_cases c18 : x2.toInt < 0
  · refine xi_cmt (pc' := 14) kc_11_2 rfl (xc_lt_t (X := x2.toInt) (Y := 0) rfl (by decide) (by omega)) ?_
    refine xi_iconst (pc' := 15) (v := 0) kc_11_14 rfl rfl ?_
    refine xi_ireturn kc_11_15 mr_11 rfl ?_
    show xw J ov (d + 4) 24 (7, [(0, .int x2)], [.int 0], hh16) _
    refine xi_ireturn kc_24_7 mr_24 rfl ?_
    show xw J ov (d + 5) 31 (4, [(0, .ref 115), (1, .int x2)], [.int 0], hh16) _
    refine xi_ift (pc' := 20) kc_31_4 rfl rfl ?_
    refine xi_iconst (pc' := 21) (v := 0) kc_31_20 rfl rfl ?_
    refine xi_ireturn kc_31_21 mr_31 rfl ?_
    show xw J ov (d + 6) 46 (10, [(0, .ref 115), (1, .int x1), (2, .int x2)], [.int 0], hh16) _
    refine xi_iff (pc' := 13) kc_46_10 rfl rfl ?_
    refine xi_aload_n (pc' := 14) (x := 115) kc_46_13 rfl rfl ?_
    refine xi_iconst (pc' := 15) (v := (-1)) kc_46_14 rfl rfl ?_
    refine xi_virtual (mj := 12) (as := [.int (-1)]) (st1 := []) (lv0 := [(0, .ref 115), (1, .int (-1))]) kc_46_15 rfl rfl rfl rfl rfl eh15.1 (Nat.le_of_ble_eq_true rfl) (hJ _ _ _ _ (by decide)) (xm_le ml_12 rfl) rfl ?_
    refine xi_aload_n (pc' := 1) (x := 115) kc_12_0 rfl rfl ?_
    refine xi_getfield (pc' := 4) (v := .ref 140) kc_12_1 rfl rfl rfl eh15.1 rfl ?_
    refine xi_iload_n (pc' := 5) (x := (-1)) kc_12_4 rfl rfl ?_
    refine xi_ineg (pc' := 6) (v := 1) kc_12_5 rfl rfl ?_
    refine xi_dup2 (pc' := 7) kc_12_6 rfl ⟨rfl, rfl⟩ ?_
    refine xcps4 (xk_arr K17.1 xD_140) (fun y19 A19 hy19 ry19 => ?_)
    refine xcps4 (xj_get hy19 ry19 (i := 1) (by decide) (by decide)) (fun v20 ev20 bv20 dv20 => ?_)
    refine xi_iaload (pc' := 8) (v := v20) kc_12_7 rfl A19 (by decide) rfl (xi_in (by decide) (by rw [hy19]; decide)) ev20 ?_
    refine xi_iconst (pc' := 9) (v := 1) kc_12_8 rfl rfl ?_
    refine xcps2 (α := Int32) ((v20 : Int32) + 1) (fun v21 ev21 => ?_)
    have rv21 := xc_rng v21
    refine xi_iadd (pc' := 10) (v := v21) kc_12_9 rfl ev21 ?_
    refine xcps4 (xj_set (v := v21) hy19 ry19 1 (by first | omega | decide) (by first | omega | decide)) (fun y22 s22 hy22 ry22 => ?_)
    refine xi_iastore (pc' := 11) (x' := y22) kc_12_10 rfl A19 rfl (xi_in (by decide) (by rw [hy19]; decide)) s22 (fun hh22 eh22 => ?_)
    have K23 := xk_pa K17 (xk_wa rfl) xD_140 hy22 ry22 eh22
    refine xi_iload_n (pc' := 12) (x := (-1)) kc_12_11 rfl rfl ?_
    refine xi_ireturn kc_12_12 mr_12 rfl ?_
    show xw J ov (d + 6) 46 (18, [(0, .ref 115), (1, .int x1), (2, .int x2)], [.int (-1)], hh22) _
    refine xi_ireturn kc_46_18 mr_46 rfl ?_
    have zcm1 : ((-1) : Int32).toInt = (-1) := by decide
    exact kk (-1) hh22 K23
  · refine xi_cmf (pc' := 5) kc_11_2 rfl (xc_lt_f (X := x2.toInt) (Y := 0) rfl (by decide) (by omega)) ?_
    refine xi_iload_n (pc' := 6) (x := x2) kc_11_5 rfl rfl ?_
    refine xi_iload_n (pc' := 7) (x := 11) kc_11_6 rfl rfl ?_
    by_cases c24 : 11 < x2.toInt
    · refine xi_cmt (pc' := 14) kc_11_7 rfl (xc_gt_t (X := x2.toInt) (Y := 11) rfl (by decide) (by omega)) ?_
      refine xi_iconst (pc' := 15) (v := 0) kc_11_14 rfl rfl ?_
      refine xi_ireturn kc_11_15 mr_11 rfl ?_
      show xw J ov (d + 4) 24 (7, [(0, .int x2)], [.int 0], hh16) _
      refine xi_ireturn kc_24_7 mr_24 rfl ?_
      show xw J ov (d + 5) 31 (4, [(0, .ref 115), (1, .int x2)], [.int 0], hh16) _
      refine xi_ift (pc' := 20) kc_31_4 rfl rfl ?_
      refine xi_iconst (pc' := 21) (v := 0) kc_31_20 rfl rfl ?_
      refine xi_ireturn kc_31_21 mr_31 rfl ?_
      show xw J ov (d + 6) 46 (10, [(0, .ref 115), (1, .int x1), (2, .int x2)], [.int 0], hh16) _
      refine xi_iff (pc' := 13) kc_46_10 rfl rfl ?_
      refine xi_aload_n (pc' := 14) (x := 115) kc_46_13 rfl rfl ?_
      refine xi_iconst (pc' := 15) (v := (-1)) kc_46_14 rfl rfl ?_
      refine xi_virtual (mj := 12) (as := [.int (-1)]) (st1 := []) (lv0 := [(0, .ref 115), (1, .int (-1))]) kc_46_15 rfl rfl rfl rfl rfl eh15.1 (Nat.le_of_ble_eq_true rfl) (hJ _ _ _ _ (by decide)) (xm_le ml_12 rfl) rfl ?_
      refine xi_aload_n (pc' := 1) (x := 115) kc_12_0 rfl rfl ?_
      refine xi_getfield (pc' := 4) (v := .ref 140) kc_12_1 rfl rfl rfl eh15.1 rfl ?_
      refine xi_iload_n (pc' := 5) (x := (-1)) kc_12_4 rfl rfl ?_
      refine xi_ineg (pc' := 6) (v := 1) kc_12_5 rfl rfl ?_
      refine xi_dup2 (pc' := 7) kc_12_6 rfl ⟨rfl, rfl⟩ ?_
      refine xcps4 (xk_arr K17.1 xD_140) (fun y25 A25 hy25 ry25 => ?_)
      refine xcps4 (xj_get hy25 ry25 (i := 1) (by decide) (by decide)) (fun v26 ev26 bv26 dv26 => ?_)
      refine xi_iaload (pc' := 8) (v := v26) kc_12_7 rfl A25 (by decide) rfl (xi_in (by decide) (by rw [hy25]; decide)) ev26 ?_
      refine xi_iconst (pc' := 9) (v := 1) kc_12_8 rfl rfl ?_
      refine xcps2 (α := Int32) ((v26 : Int32) + 1) (fun v27 ev27 => ?_)
      have rv27 := xc_rng v27
      refine xi_iadd (pc' := 10) (v := v27) kc_12_9 rfl ev27 ?_
      refine xcps4 (xj_set (v := v27) hy25 ry25 1 (by first | omega | decide) (by first | omega | decide)) (fun y28 s28 hy28 ry28 => ?_)
      refine xi_iastore (pc' := 11) (x' := y28) kc_12_10 rfl A25 rfl (xi_in (by decide) (by rw [hy25]; decide)) s28 (fun hh28 eh28 => ?_)
      have K29 := xk_pa K17 (xk_wa rfl) xD_140 hy28 ry28 eh28
      refine xi_iload_n (pc' := 12) (x := (-1)) kc_12_11 rfl rfl ?_
      refine xi_ireturn kc_12_12 mr_12 rfl ?_
      show xw J ov (d + 6) 46 (18, [(0, .ref 115), (1, .int x1), (2, .int x2)], [.int (-1)], hh28) _
      refine xi_ireturn kc_46_18 mr_46 rfl ?_
      have zcm1 : ((-1) : Int32).toInt = (-1) := by decide
      exact kk (-1) hh28 K29
    · refine xi_cmf (pc' := 10) kc_11_7 rfl (xc_gt_f (X := x2.toInt) (Y := 11) rfl (by decide) (by omega)) ?_
      refine xi_iconst (pc' := 11) (v := 1) kc_11_10 rfl rfl ?_
      refine xi_goto (pc' := 15) kc_11_11 rfl ?_
      refine xi_ireturn kc_11_15 mr_11 rfl ?_
      show xw J ov (d + 4) 24 (7, [(0, .int x2)], [.int 1], hh16) _
      refine xi_ireturn kc_24_7 mr_24 rfl ?_
      show xw J ov (d + 5) 31 (4, [(0, .ref 115), (1, .int x2)], [.int 1], hh16) _
      refine xi_iff (pc' := 7) kc_31_4 rfl rfl ?_
      refine xi_aload_n (pc' := 8) (x := 115) kc_31_7 rfl rfl ?_
      refine xi_getfield (pc' := 11) (v := .ref 125) kc_31_8 rfl rfl rfl eh15.1 rfl ?_
      refine xi_iload_n (pc' := 12) (x := x2) kc_31_11 rfl rfl ?_
      refine xcps4 (xk_arr K17.1 xD_125) (fun y30 A30 hy30 ry30 => ?_)
      refine xcps4 (xj_get hy30 ry30 (i := x2) (by omega) (by omega)) (fun v31 ev31 bv31 dv31 => ?_)
      refine xi_iaload (pc' := 13) (v := v31) kc_31_12 rfl A30 (by decide) rfl (xi_in (by omega) (by rw [hy30]; omega)) ev31 ?_
      by_cases c32 : v31.toInt < 0
      · refine xi_ift (pc' := 20) kc_31_13 rfl (xc_lt_t (X := v31.toInt) (Y := 0) rfl (by decide) (by omega)) ?_
        refine xi_iconst (pc' := 21) (v := 0) kc_31_20 rfl rfl ?_
        refine xi_ireturn kc_31_21 mr_31 rfl ?_
        show xw J ov (d + 6) 46 (10, [(0, .ref 115), (1, .int x1), (2, .int x2)], [.int 0], hh16) _
        refine xi_iff (pc' := 13) kc_46_10 rfl rfl ?_
        refine xi_aload_n (pc' := 14) (x := 115) kc_46_13 rfl rfl ?_
        refine xi_iconst (pc' := 15) (v := (-1)) kc_46_14 rfl rfl ?_
        refine xi_virtual (mj := 12) (as := [.int (-1)]) (st1 := []) (lv0 := [(0, .ref 115), (1, .int (-1))]) kc_46_15 rfl rfl rfl rfl rfl eh15.1 (Nat.le_of_ble_eq_true rfl) (hJ _ _ _ _ (by decide)) (xm_le ml_12 rfl) rfl ?_
        refine xi_aload_n (pc' := 1) (x := 115) kc_12_0 rfl rfl ?_
        refine xi_getfield (pc' := 4) (v := .ref 140) kc_12_1 rfl rfl rfl eh15.1 rfl ?_
        refine xi_iload_n (pc' := 5) (x := (-1)) kc_12_4 rfl rfl ?_
        refine xi_ineg (pc' := 6) (v := 1) kc_12_5 rfl rfl ?_
        refine xi_dup2 (pc' := 7) kc_12_6 rfl ⟨rfl, rfl⟩ ?_
        refine xcps4 (xk_arr K17.1 xD_140) (fun y33 A33 hy33 ry33 => ?_)
        refine xcps4 (xj_get hy33 ry33 (i := 1) (by decide) (by decide)) (fun v34 ev34 bv34 dv34 => ?_)
        refine xi_iaload (pc' := 8) (v := v34) kc_12_7 rfl A33 (by decide) rfl (xi_in (by decide) (by rw [hy33]; decide)) ev34 ?_
        refine xi_iconst (pc' := 9) (v := 1) kc_12_8 rfl rfl ?_
        refine xcps2 (α := Int32) ((v34 : Int32) + 1) (fun v35 ev35 => ?_)
        have rv35 := xc_rng v35
        refine xi_iadd (pc' := 10) (v := v35) kc_12_9 rfl ev35 ?_
        refine xcps4 (xj_set (v := v35) hy33 ry33 1 (by first | omega | decide) (by first | omega | decide)) (fun y36 s36 hy36 ry36 => ?_)
        refine xi_iastore (pc' := 11) (x' := y36) kc_12_10 rfl A33 rfl (xi_in (by decide) (by rw [hy33]; decide)) s36 (fun hh36 eh36 => ?_)
        have K37 := xk_pa K17 (xk_wa rfl) xD_140 hy36 ry36 eh36
        refine xi_iload_n (pc' := 12) (x := (-1)) kc_12_11 rfl rfl ?_
        refine xi_ireturn kc_12_12 mr_12 rfl ?_
        show xw J ov (d + 6) 46 (18, [(0, .ref 115), (1, .int x1), (2, .int x2)], [.int (-1)], hh36) _
        refine xi_ireturn kc_46_18 mr_46 rfl ?_
        have zcm1 : ((-1) : Int32).toInt = (-1) := by decide
        exact kk (-1) hh36 K37
      · refine xi_iff (pc' := 16) kc_31_13 rfl (xc_lt_f (X := v31.toInt) (Y := 0) rfl (by decide) (by omega)) ?_
        refine xi_iconst (pc' := 17) (v := 1) kc_31_16 rfl rfl ?_
        refine xi_goto (pc' := 21) kc_31_17 rfl ?_
        refine xi_ireturn kc_31_21 mr_31 rfl ?_
        show xw J ov (d + 6) 46 (10, [(0, .ref 115), (1, .int x1), (2, .int x2)], [.int 1], hh16) _
        refine xi_ift (pc' := 19) kc_46_10 rfl rfl ?_
        refine xi_iload_n (pc' := 20) (x := x1) kc_46_19 rfl rfl ?_
        refine xi_iconst (pc' := 21) (v := 0) kc_46_20 rfl rfl ?_
        refine xi_aload_n (pc' := 22) (x := 115) kc_46_21 rfl rfl ?_
        refine xi_virtual (mj := 42) (as := []) (st1 := [.int 0, .int x1]) (lv0 := [(0, .ref 115)]) kc_46_22 rfl rfl rfl rfl rfl eh15.1 (Nat.le_of_ble_eq_true rfl) (hJ _ _ _ _ (by decide)) (xm_le ml_42 rfl) rfl ?_
        refine xi_iconst (pc' := 1) (v := 1) kc_42_0 rfl rfl ?_
        refine xi_aload_n (pc' := 2) (x := 115) kc_42_1 rfl rfl ?_
        refine xi_getfield (pc' := 5) (v := .int u5) kc_42_2 rfl rfl rfl eh15.1 rfl ?_
        refine xi_bipush (pc' := 7) (v := 6) kc_42_5 rfl rfl ?_
        by_cases c38 : 6 ≤ u5.toInt
        · refine xi_cmt (pc' := 17) kc_42_7 rfl (xc_ge_t (X := u5.toInt) (Y := 6) rfl (by decide) (by omega)) ?_
          refine xi_bipush (pc' := 19) (v := 6) kc_42_17 rfl rfl ?_
          refine xi_ishl (pc' := 20) (v := 64) kc_42_19 rfl rfl ?_
          refine xi_ireturn kc_42_20 mr_42 rfl ?_
          show xw J ov (d + 6) 46 (25, [(0, .ref 115), (1, .int x1), (2, .int x2)], [.int 64, .int 0, .int x1], hh16) _
          refine xi_iconst (pc' := 26) (v := 1) kc_46_25 rfl rfl ?_
          refine xi_isub (pc' := 27) (v := 63) kc_46_26 rfl rfl ?_
          refine xi_static (mj := 11) (as := [.int x1, .int 0, .int 63]) (st1 := []) (lv0 := [(0, .int x1), (1, .int 0), (2, .int 63)]) kc_46_27 rfl rfl (Nat.le_of_ble_eq_true rfl) rfl rfl (Nat.le_of_ble_eq_true rfl) (hJ _ _ _ _ (by decide)) (xm_le ml_11 rfl) rfl ?_
          refine xi_iload_n (pc' := 1) (x := x1) kc_11_0 rfl rfl ?_
          refine xi_iload_n (pc' := 2) (x := 0) kc_11_1 rfl rfl ?_
          by_cases c39 : x1.toInt < 0
          · refine xi_cmt (pc' := 14) kc_11_2 rfl (xc_lt_t (X := x1.toInt) (Y := 0) rfl (by decide) (by omega)) ?_
            refine xi_iconst (pc' := 15) (v := 0) kc_11_14 rfl rfl ?_
            refine xi_ireturn kc_11_15 mr_11 rfl ?_
            show xw J ov (d + 6) 46 (30, [(0, .ref 115), (1, .int x1), (2, .int x2)], [.int 0], hh16) _
            refine xi_iff (pc' := 33) kc_46_30 rfl rfl ?_
            refine xi_aload_n (pc' := 34) (x := 115) kc_46_33 rfl rfl ?_
            refine xi_bipush (pc' := 36) (v := (-2)) kc_46_34 rfl rfl ?_
            refine xi_virtual (mj := 12) (as := [.int (-2)]) (st1 := []) (lv0 := [(0, .ref 115), (1, .int (-2))]) kc_46_36 rfl rfl rfl rfl rfl eh15.1 (Nat.le_of_ble_eq_true rfl) (hJ _ _ _ _ (by decide)) (xm_le ml_12 rfl) rfl ?_
            refine xi_aload_n (pc' := 1) (x := 115) kc_12_0 rfl rfl ?_
            refine xi_getfield (pc' := 4) (v := .ref 140) kc_12_1 rfl rfl rfl eh15.1 rfl ?_
            refine xi_iload_n (pc' := 5) (x := (-2)) kc_12_4 rfl rfl ?_
            refine xi_ineg (pc' := 6) (v := 2) kc_12_5 rfl rfl ?_
            refine xi_dup2 (pc' := 7) kc_12_6 rfl ⟨rfl, rfl⟩ ?_
            refine xcps4 (xk_arr K17.1 xD_140) (fun y40 A40 hy40 ry40 => ?_)
            refine xcps4 (xj_get hy40 ry40 (i := 2) (by decide) (by decide)) (fun v41 ev41 bv41 dv41 => ?_)
            refine xi_iaload (pc' := 8) (v := v41) kc_12_7 rfl A40 (by decide) rfl (xi_in (by decide) (by rw [hy40]; decide)) ev41 ?_
            refine xi_iconst (pc' := 9) (v := 1) kc_12_8 rfl rfl ?_
            refine xcps2 (α := Int32) ((v41 : Int32) + 1) (fun v42 ev42 => ?_)
            have rv42 := xc_rng v42
            refine xi_iadd (pc' := 10) (v := v42) kc_12_9 rfl ev42 ?_
            refine xcps4 (xj_set (v := v42) hy40 ry40 2 (by first | omega | decide) (by first | omega | decide)) (fun y43 s43 hy43 ry43 => ?_)
            refine xi_iastore (pc' := 11) (x' := y43) kc_12_10 rfl A40 rfl (xi_in (by decide) (by rw [hy40]; decide)) s43 (fun hh43 eh43 => ?_)
            have K44 := xk_pa K17 (xk_wa rfl) xD_140 hy43 ry43 eh43
            refine xi_iload_n (pc' := 12) (x := (-2)) kc_12_11 rfl rfl ?_
            refine xi_ireturn kc_12_12 mr_12 rfl ?_
            show xw J ov (d + 6) 46 (39, [(0, .ref 115), (1, .int x1), (2, .int x2)], [.int (-2)], hh43) _
            refine xi_ireturn kc_46_39 mr_46 rfl ?_
            have zcm2 : ((-2) : Int32).toInt = (-2) := by decide
            exact kk (-2) hh43 K44
          · refine xi_cmf (pc' := 5) kc_11_2 rfl (xc_lt_f (X := x1.toInt) (Y := 0) rfl (by decide) (by omega)) ?_
            refine xi_iload_n (pc' := 6) (x := x1) kc_11_5 rfl rfl ?_
            refine xi_iload_n (pc' := 7) (x := 63) kc_11_6 rfl rfl ?_
            by_cases c45 : 63 < x1.toInt
            · refine xi_cmt (pc' := 14) kc_11_7 rfl (xc_gt_t (X := x1.toInt) (Y := 63) rfl (by decide) (by omega)) ?_
              refine xi_iconst (pc' := 15) (v := 0) kc_11_14 rfl rfl ?_
              refine xi_ireturn kc_11_15 mr_11 rfl ?_
              show xw J ov (d + 6) 46 (30, [(0, .ref 115), (1, .int x1), (2, .int x2)], [.int 0], hh16) _
              refine xi_iff (pc' := 33) kc_46_30 rfl rfl ?_
              refine xi_aload_n (pc' := 34) (x := 115) kc_46_33 rfl rfl ?_
              refine xi_bipush (pc' := 36) (v := (-2)) kc_46_34 rfl rfl ?_
              refine xi_virtual (mj := 12) (as := [.int (-2)]) (st1 := []) (lv0 := [(0, .ref 115), (1, .int (-2))]) kc_46_36 rfl rfl rfl rfl rfl eh15.1 (Nat.le_of_ble_eq_true rfl) (hJ _ _ _ _ (by decide)) (xm_le ml_12 rfl) rfl ?_
              refine xi_aload_n (pc' := 1) (x := 115) kc_12_0 rfl rfl ?_
              refine xi_getfield (pc' := 4) (v := .ref 140) kc_12_1 rfl rfl rfl eh15.1 rfl ?_
              refine xi_iload_n (pc' := 5) (x := (-2)) kc_12_4 rfl rfl ?_
              refine xi_ineg (pc' := 6) (v := 2) kc_12_5 rfl rfl ?_
              refine xi_dup2 (pc' := 7) kc_12_6 rfl ⟨rfl, rfl⟩ ?_
              refine xcps4 (xk_arr K17.1 xD_140) (fun y46 A46 hy46 ry46 => ?_)
              refine xcps4 (xj_get hy46 ry46 (i := 2) (by decide) (by decide)) (fun v47 ev47 bv47 dv47 => ?_)
              refine xi_iaload (pc' := 8) (v := v47) kc_12_7 rfl A46 (by decide) rfl (xi_in (by decide) (by rw [hy46]; decide)) ev47 ?_
              refine xi_iconst (pc' := 9) (v := 1) kc_12_8 rfl rfl ?_
              refine xcps2 (α := Int32) ((v47 : Int32) + 1) (fun v48 ev48 => ?_)
              have rv48 := xc_rng v48
              refine xi_iadd (pc' := 10) (v := v48) kc_12_9 rfl ev48 ?_
              refine xcps4 (xj_set (v := v48) hy46 ry46 2 (by first | omega | decide) (by first | omega | decide)) (fun y49 s49 hy49 ry49 => ?_)
              refine xi_iastore (pc' := 11) (x' := y49) kc_12_10 rfl A46 rfl (xi_in (by decide) (by rw [hy46]; decide)) s49 (fun hh49 eh49 => ?_)
              have K50 := xk_pa K17 (xk_wa rfl) xD_140 hy49 ry49 eh49
              refine xi_iload_n (pc' := 12) (x := (-2)) kc_12_11 rfl rfl ?_
              refine xi_ireturn kc_12_12 mr_12 rfl ?_
              show xw J ov (d + 6) 46 (39, [(0, .ref 115), (1, .int x1), (2, .int x2)], [.int (-2)], hh49) _
              refine xi_ireturn kc_46_39 mr_46 rfl ?_
              have zcm2 : ((-2) : Int32).toInt = (-2) := by decide
              exact kk (-2) hh49 K50
            · refine xi_cmf (pc' := 10) kc_11_7 rfl (xc_gt_f (X := x1.toInt) (Y := 63) rfl (by decide) (by omega)) ?_
              refine xi_iconst (pc' := 11) (v := 1) kc_11_10 rfl rfl ?_
              refine xi_goto (pc' := 15) kc_11_11 rfl ?_
              refine xi_ireturn kc_11_15 mr_11 rfl ?_
              show xw J ov (d + 6) 46 (30, [(0, .ref 115), (1, .int x1), (2, .int x2)], [.int 1], hh16) _
              refine xi_ift (pc' := 40) kc_46_30 rfl rfl ?_
              refine xi_aload_n (pc' := 41) (x := 115) kc_46_40 rfl rfl ?_
              refine xi_virtual (mj := 44) (as := []) (st1 := []) (lv0 := [(0, .ref 115)]) kc_46_41 rfl rfl rfl rfl rfl eh15.1 (Nat.le_of_ble_eq_true rfl) (hJ _ _ _ _ (by decide)) (xm_le ml_44 rfl) rfl ?_
              refine mt_44_0 hJ hov1 hov2 (d := d + 4)  K17.1 (fun hh52 K53 => ?_)
              have K54 := xk_tr K17 K53 rfl
              refine xp_115 K54.1 (fun u55 u56 u57 u58 u59 u60 u61 u62 u63 u64 u65 u66 u67 bu55 bu56 bu57 bu58 bu59 bu60 bu61 bu62 bu63 bu64 bu65 bu66 bu67 A68 => ?_)
              have e69 : u2 = u56 := xk_eqi (q := 1) K53 rfl eh15.1 A68 rfl rfl
              subst e69
              have e70 : u4 = u58 := xk_eqi (q := 18) K53 rfl eh15.1 A68 rfl rfl
              subst e70
              have A71 := xk_eqa (q := 0) K53 rfl A30
              show xw J ov (d + 6) 46 (44, [(0, .ref 115), (1, .int x1), (2, .int x2)], [], hh52) _
              refine xi_aload_n (pc' := 45) (x := 115) kc_46_44 rfl rfl ?_
              refine xi_iload_n (pc' := 46) (x := x1) kc_46_45 rfl rfl ?_
              refine xi_virtual (mj := 45) (as := [.int x1]) (st1 := []) (lv0 := [(0, .ref 115), (1, .int x1)]) kc_46_46 rfl rfl rfl rfl rfl A68 (Nat.le_of_ble_eq_true rfl) (hJ _ _ _ _ (by decide)) (xm_le ml_45 rfl) rfl ?_
              refine mt_45_0 hJ hov1 hov2 (d := d) (x1 := x1) K54.1 (by first | omega | decide) (fun r72 hh73 K74 => ?_)
              have K75 := xk_tr K54 K74 rfl
              refine xp_115 K75.1 (fun u76 u77 u78 u79 u80 u81 u82 u83 u84 u85 u86 u87 u88 bu76 bu77 bu78 bu79 bu80 bu81 bu82 bu83 bu84 bu85 bu86 bu87 bu88 A89 => ?_)
              have e90 : u2 = u77 := xk_eqi (q := 1) K74 rfl A68 A89 rfl rfl
              subst e90
              have e91 : u4 = u79 := xk_eqi (q := 18) K74 rfl A68 A89 rfl rfl
              subst e91
              have A92 := xk_eqa (q := 0) K74 rfl A71
              show xw J ov (d + 6) 46 (49, [(0, .ref 115), (1, .int x1), (2, .int x2)], [.long r72], hh73) _
              refine xi_lstore_n (pc' := 50) (lv' := [(3, .long r72), (0, .ref 115), (1, .int x1), (2, .int x2)]) kc_46_49 rfl rfl (xm_lt ml_46 rfl) ?_
              refine xi_aload_n (pc' := 51) (x := 115) kc_46_50 rfl rfl ?_
              refine xi_getfield (pc' := 54) (v := .ref 142) kc_46_51 rfl rfl rfl A89 rfl ?_
              refine xi_iload_n (pc' := 55) (x := x2) kc_46_54 rfl rfl ?_
              refine xcps4 (xk_arr K75.1 xD_142) (fun y93 A93 hy93 ry93 => ?_)
              refine xcps4 (xj_get hy93 ry93 (i := x2) (by omega) (by omega)) (fun v94 ev94 bv94 dv94 => ?_)
              refine xi_iaload (pc' := 56) (v := v94) kc_46_55 rfl A93 (by decide) rfl (xi_in (by omega) (by rw [hy93]; omega)) ev94 ?_
              refine xi_ireturn kc_46_56 mr_46 rfl ?_
              exact kk v94 hh73 K75
        · refine xi_cmf (pc' := 10) kc_42_7 rfl (xc_ge_f (X := u5.toInt) (Y := 6) rfl (by decide) (by omega)) ?_
          refine xi_aload_n (pc' := 11) (x := 115) kc_42_10 rfl rfl ?_
          refine xi_getfield (pc' := 14) (v := .int u5) kc_42_11 rfl rfl rfl eh15.1 rfl ?_
          refine xi_goto (pc' := 19) kc_42_14 rfl ?_
          refine xcps2 (α := Int32) ((1 : Int32) <<< (u5 &&& 31)) (fun v95 ev95 => ?_)
          have rv95 := xc_rng v95
          have bv95 : 1 ≤ v95.toInt ∧ v95.toInt ≤ 64 := by rw [← ev95]; exact xj_shl6 (by omega) (by omega)
          refine xi_ishl (pc' := 20) (v := v95) kc_42_19 rfl ev95 ?_
          refine xi_ireturn kc_42_20 mr_42 rfl ?_
          show xw J ov (d + 6) 46 (25, [(0, .ref 115), (1, .int x1), (2, .int x2)], [.int v95, .int 0, .int x1], hh16) _
          refine xi_iconst (pc' := 26) (v := 1) kc_46_25 rfl rfl ?_
          refine xcps2 (α := Int32) (v95 - 1) (fun v96 ev96 => ?_)
          have zv96 : v96.toInt = (v95.toInt + (-1)) := by rw [← ev96]; exact (xz_sub (X := v95.toInt) (Y := 1) rfl (by decide) (by omega) (by omega)).trans (by omega)
          refine xi_isub (pc' := 27) (v := v96) kc_46_26 rfl ev96 ?_
          refine xi_static (mj := 11) (as := [.int x1, .int 0, .int v96]) (st1 := []) (lv0 := [(0, .int x1), (1, .int 0), (2, .int v96)]) kc_46_27 rfl rfl (Nat.le_of_ble_eq_true rfl) rfl rfl (Nat.le_of_ble_eq_true rfl) (hJ _ _ _ _ (by decide)) (xm_le ml_11 rfl) rfl ?_
          refine xi_iload_n (pc' := 1) (x := x1) kc_11_0 rfl rfl ?_
          refine xi_iload_n (pc' := 2) (x := 0) kc_11_1 rfl rfl ?_
          by_cases c97 : x1.toInt < 0
          · refine xi_cmt (pc' := 14) kc_11_2 rfl (xc_lt_t (X := x1.toInt) (Y := 0) rfl (by decide) (by omega)) ?_
            refine xi_iconst (pc' := 15) (v := 0) kc_11_14 rfl rfl ?_
            refine xi_ireturn kc_11_15 mr_11 rfl ?_
            show xw J ov (d + 6) 46 (30, [(0, .ref 115), (1, .int x1), (2, .int x2)], [.int 0], hh16) _
            refine xi_iff (pc' := 33) kc_46_30 rfl rfl ?_
            refine xi_aload_n (pc' := 34) (x := 115) kc_46_33 rfl rfl ?_
            refine xi_bipush (pc' := 36) (v := (-2)) kc_46_34 rfl rfl ?_
            refine xi_virtual (mj := 12) (as := [.int (-2)]) (st1 := []) (lv0 := [(0, .ref 115), (1, .int (-2))]) kc_46_36 rfl rfl rfl rfl rfl eh15.1 (Nat.le_of_ble_eq_true rfl) (hJ _ _ _ _ (by decide)) (xm_le ml_12 rfl) rfl ?_
            refine xi_aload_n (pc' := 1) (x := 115) kc_12_0 rfl rfl ?_
            refine xi_getfield (pc' := 4) (v := .ref 140) kc_12_1 rfl rfl rfl eh15.1 rfl ?_
            refine xi_iload_n (pc' := 5) (x := (-2)) kc_12_4 rfl rfl ?_
            refine xi_ineg (pc' := 6) (v := 2) kc_12_5 rfl rfl ?_
            refine xi_dup2 (pc' := 7) kc_12_6 rfl ⟨rfl, rfl⟩ ?_
            refine xcps4 (xk_arr K17.1 xD_140) (fun y98 A98 hy98 ry98 => ?_)
            refine xcps4 (xj_get hy98 ry98 (i := 2) (by decide) (by decide)) (fun v99 ev99 bv99 dv99 => ?_)
            refine xi_iaload (pc' := 8) (v := v99) kc_12_7 rfl A98 (by decide) rfl (xi_in (by decide) (by rw [hy98]; decide)) ev99 ?_
            refine xi_iconst (pc' := 9) (v := 1) kc_12_8 rfl rfl ?_
            refine xcps2 (α := Int32) ((v99 : Int32) + 1) (fun v100 ev100 => ?_)
            have rv100 := xc_rng v100
            refine xi_iadd (pc' := 10) (v := v100) kc_12_9 rfl ev100 ?_
            refine xcps4 (xj_set (v := v100) hy98 ry98 2 (by first | omega | decide) (by first | omega | decide)) (fun y101 s101 hy101 ry101 => ?_)
            refine xi_iastore (pc' := 11) (x' := y101) kc_12_10 rfl A98 rfl (xi_in (by decide) (by rw [hy98]; decide)) s101 (fun hh101 eh101 => ?_)
            have K102 := xk_pa K17 (xk_wa rfl) xD_140 hy101 ry101 eh101
            refine xi_iload_n (pc' := 12) (x := (-2)) kc_12_11 rfl rfl ?_
            refine xi_ireturn kc_12_12 mr_12 rfl ?_
            show xw J ov (d + 6) 46 (39, [(0, .ref 115), (1, .int x1), (2, .int x2)], [.int (-2)], hh101) _
            refine xi_ireturn kc_46_39 mr_46 rfl ?_
            have zcm2 : ((-2) : Int32).toInt = (-2) := by decide
            exact kk (-2) hh101 K102
          · refine xi_cmf (pc' := 5) kc_11_2 rfl (xc_lt_f (X := x1.toInt) (Y := 0) rfl (by decide) (by omega)) ?_
            refine xi_iload_n (pc' := 6) (x := x1) kc_11_5 rfl rfl ?_
            refine xi_iload_n (pc' := 7) (x := v96) kc_11_6 rfl rfl ?_
            by_cases c103 : (v95.toInt + (-1)) < x1.toInt
            · refine xi_cmt (pc' := 14) kc_11_7 rfl (xc_gt_t (X := x1.toInt) (Y := (v95.toInt + (-1))) rfl zv96 (by omega)) ?_
              refine xi_iconst (pc' := 15) (v := 0) kc_11_14 rfl rfl ?_
              refine xi_ireturn kc_11_15 mr_11 rfl ?_
              show xw J ov (d + 6) 46 (30, [(0, .ref 115), (1, .int x1), (2, .int x2)], [.int 0], hh16) _
              refine xi_iff (pc' := 33) kc_46_30 rfl rfl ?_
              refine xi_aload_n (pc' := 34) (x := 115) kc_46_33 rfl rfl ?_
              refine xi_bipush (pc' := 36) (v := (-2)) kc_46_34 rfl rfl ?_
              refine xi_virtual (mj := 12) (as := [.int (-2)]) (st1 := []) (lv0 := [(0, .ref 115), (1, .int (-2))]) kc_46_36 rfl rfl rfl rfl rfl eh15.1 (Nat.le_of_ble_eq_true rfl) (hJ _ _ _ _ (by decide)) (xm_le ml_12 rfl) rfl ?_
              refine xi_aload_n (pc' := 1) (x := 115) kc_12_0 rfl rfl ?_
              refine xi_getfield (pc' := 4) (v := .ref 140) kc_12_1 rfl rfl rfl eh15.1 rfl ?_
              refine xi_iload_n (pc' := 5) (x := (-2)) kc_12_4 rfl rfl ?_
              refine xi_ineg (pc' := 6) (v := 2) kc_12_5 rfl rfl ?_
              refine xi_dup2 (pc' := 7) kc_12_6 rfl ⟨rfl, rfl⟩ ?_
              refine xcps4 (xk_arr K17.1 xD_140) (fun y104 A104 hy104 ry104 => ?_)
              refine xcps4 (xj_get hy104 ry104 (i := 2) (by decide) (by decide)) (fun v105 ev105 bv105 dv105 => ?_)
              refine xi_iaload (pc' := 8) (v := v105) kc_12_7 rfl A104 (by decide) rfl (xi_in (by decide) (by rw [hy104]; decide)) ev105 ?_
              refine xi_iconst (pc' := 9) (v := 1) kc_12_8 rfl rfl ?_
              refine xcps2 (α := Int32) ((v105 : Int32) + 1) (fun v106 ev106 => ?_)
              have rv106 := xc_rng v106
              refine xi_iadd (pc' := 10) (v := v106) kc_12_9 rfl ev106 ?_
              refine xcps4 (xj_set (v := v106) hy104 ry104 2 (by first | omega | decide) (by first | omega | decide)) (fun y107 s107 hy107 ry107 => ?_)
              refine xi_iastore (pc' := 11) (x' := y107) kc_12_10 rfl A104 rfl (xi_in (by decide) (by rw [hy104]; decide)) s107 (fun hh107 eh107 => ?_)
              have K108 := xk_pa K17 (xk_wa rfl) xD_140 hy107 ry107 eh107
              refine xi_iload_n (pc' := 12) (x := (-2)) kc_12_11 rfl rfl ?_
              refine xi_ireturn kc_12_12 mr_12 rfl ?_
              show xw J ov (d + 6) 46 (39, [(0, .ref 115), (1, .int x1), (2, .int x2)], [.int (-2)], hh107) _
              refine xi_ireturn kc_46_39 mr_46 rfl ?_
              have zcm2 : ((-2) : Int32).toInt = (-2) := by decide
              exact kk (-2) hh107 K108
            · refine xi_cmf (pc' := 10) kc_11_7 rfl (xc_gt_f (X := x1.toInt) (Y := (v95.toInt + (-1))) rfl zv96 (by omega)) ?_
              refine xi_iconst (pc' := 11) (v := 1) kc_11_10 rfl rfl ?_
              refine xi_goto (pc' := 15) kc_11_11 rfl ?_
              refine xi_ireturn kc_11_15 mr_11 rfl ?_
              show xw J ov (d + 6) 46 (30, [(0, .ref 115), (1, .int x1), (2, .int x2)], [.int 1], hh16) _
              refine xi_ift (pc' := 40) kc_46_30 rfl rfl ?_
              refine xi_aload_n (pc' := 41) (x := 115) kc_46_40 rfl rfl ?_
              refine xi_virtual (mj := 44) (as := []) (st1 := []) (lv0 := [(0, .ref 115)]) kc_46_41 rfl rfl rfl rfl rfl eh15.1 (Nat.le_of_ble_eq_true rfl) (hJ _ _ _ _ (by decide)) (xm_le ml_44 rfl) rfl ?_
              refine mt_44_0 hJ hov1 hov2 (d := d + 4)  K17.1 (fun hh110 K111 => ?_)
              have K112 := xk_tr K17 K111 rfl
              refine xp_115 K112.1 (fun u113 u114 u115 u116 u117 u118 u119 u120 u121 u122 u123 u124 u125 bu113 bu114 bu115 bu116 bu117 bu118 bu119 bu120 bu121 bu122 bu123 bu124 bu125 A126 => ?_)
              have e127 : u2 = u114 := xk_eqi (q := 1) K111 rfl eh15.1 A126 rfl rfl
              subst e127
              have e128 : u4 = u116 := xk_eqi (q := 18) K111 rfl eh15.1 A126 rfl rfl
              subst e128
              have A129 := xk_eqa (q := 0) K111 rfl A30
              show xw J ov (d + 6) 46 (44, [(0, .ref 115), (1, .int x1), (2, .int x2)], [], hh110) _
              refine xi_aload_n (pc' := 45) (x := 115) kc_46_44 rfl rfl ?_
              refine xi_iload_n (pc' := 46) (x := x1) kc_46_45 rfl rfl ?_
              refine xi_virtual (mj := 45) (as := [.int x1]) (st1 := []) (lv0 := [(0, .ref 115), (1, .int x1)]) kc_46_46 rfl rfl rfl rfl rfl A126 (Nat.le_of_ble_eq_true rfl) (hJ _ _ _ _ (by decide)) (xm_le ml_45 rfl) rfl ?_
              refine mt_45_0 hJ hov1 hov2 (d := d) (x1 := x1) K112.1 (by first | omega | decide) (fun r130 hh131 K132 => ?_)
              have K133 := xk_tr K112 K132 rfl
              refine xp_115 K133.1 (fun u134 u135 u136 u137 u138 u139 u140 u141 u142 u143 u144 u145 u146 bu134 bu135 bu136 bu137 bu138 bu139 bu140 bu141 bu142 bu143 bu144 bu145 bu146 A147 => ?_)
              have e148 : u2 = u135 := xk_eqi (q := 1) K132 rfl A126 A147 rfl rfl
              subst e148
              have e149 : u4 = u137 := xk_eqi (q := 18) K132 rfl A126 A147 rfl rfl
              subst e149
              have A150 := xk_eqa (q := 0) K132 rfl A129
              show xw J ov (d + 6) 46 (49, [(0, .ref 115), (1, .int x1), (2, .int x2)], [.long r130], hh131) _
              refine xi_lstore_n (pc' := 50) (lv' := [(3, .long r130), (0, .ref 115), (1, .int x1), (2, .int x2)]) kc_46_49 rfl rfl (xm_lt ml_46 rfl) ?_
              refine xi_aload_n (pc' := 51) (x := 115) kc_46_50 rfl rfl ?_
              refine xi_getfield (pc' := 54) (v := .ref 142) kc_46_51 rfl rfl rfl A147 rfl ?_
              refine xi_iload_n (pc' := 55) (x := x2) kc_46_54 rfl rfl ?_
              refine xcps4 (xk_arr K133.1 xD_142) (fun y151 A151 hy151 ry151 => ?_)
              refine xcps4 (xj_get hy151 ry151 (i := x2) (by omega) (by omega)) (fun v152 ev152 bv152 dv152 => ?_)
              refine xi_iaload (pc' := 56) (v := v152) kc_46_55 rfl A151 (by decide) rfl (xi_in (by omega) (by rw [hy151]; omega)) ev152 ?_
              refine xi_ireturn kc_46_56 mr_46 rfl ?_
              exact kk v152 hh131 K133
set_option maxHeartbeats 4000000 in
theorem lp_49_0 {J : xe_J} {ov : List (List Int32)} (hJ : ∀ d mj as h, mj ≠ xe_loff → J d mj as h = none) (hov1 : ov[1]? = some [10, 0, 0, 0, 0, 0]) (hov2 : ov[2]? = some [99, 30, 50, 50, 1, 99999]) {d : Nat} {Q : Option Value → xe_H → Prop} {hb : xe_H} (kk : (∀ (r : Int32) (h' : xe_H), xk [(0, 9), (115, 1), (83, 0), (29, 0), (31, 0), (33, 0), (35, 0), (37, 0), (39, 0), (41, 0), (43, 0), (45, 0), (47, 0), (49, 0), (51, 0), (125, 0), (66, 8), (115, 18), (71, 0), (132, 0)] hb h' → Q (some (.int r)) h')) : ∀ m : Nat, (∀ (x1 : Int32) (x2 : Int32) (h : xe_H), xk [(0, 9), (115, 1), (83, 0), (29, 0), (31, 0), (33, 0), (35, 0), (37, 0), (39, 0), (41, 0), (43, 0), (45, 0), (47, 0), (49, 0), (51, 0), (125, 0), (66, 8), (115, 18), (71, 0), (132, 0)] hb h → (1) * x2.toInt + 2147483648 < (m : Int) → xw J ov (d + 1) 49 (4, [(1, .int x1), (2, .int x2)], [], h) Q) := by
  intro m
  induction m with
  | zero =>
    intro x1 x2 h K hm; have rx1 := xc_rng x1; have rx2 := xc_rng x2; exfalso; omega
  | succ m ih =>
    have i0 := ih
    intro x1 x2 h K hm
    have rx1 := xc_rng x1
    have rx2 := xc_rng x2
    refine xi_iload_n (pc' := 5) (x := x2) kc_49_4 rfl rfl ?_
    by_cases c1 : x2.toInt ≤ 0
    · refine xi_ift (pc' := 21) kc_49_5 rfl (xc_le_t (X := x2.toInt) (Y := 0) rfl (by decide) (by omega)) ?_
      refine xi_iload_n (pc' := 22) (x := x1) kc_49_21 rfl rfl ?_
      refine xi_ireturn kc_49_22 mr_49 rfl ?_
      exact kk x1 h K
    · refine xi_iff (pc' := 8) kc_49_5 rfl (xc_le_f (X := x2.toInt) (Y := 0) rfl (by decide) (by omega)) ?_
      refine xi_iload_n (pc' := 9) (x := x1) kc_49_8 rfl rfl ?_
      refine xi_iload_n (pc' := 10) (x := x2) kc_49_9 rfl rfl ?_
      refine xi_iconst (pc' := 11) (v := 2) kc_49_10 rfl rfl ?_
      refine xcps2 (α := Int32) (x2 - x2 / 2 * 2) (fun v2 ev2 => ?_)
      have dv2 : v2.toInt = x2.toInt % 2 := by rw [← ev2]; exact xz_reme (X := x2.toInt) (Y := 2) rfl (by decide) (by omega) (by decide)
      have bv2 : 0 ≤ v2.toInt ∧ v2.toInt ≤ 1 := by omega
      refine xi_irem (pc' := 12) (v := v2) kc_49_11 rfl ev2 (by decide) ?_
      refine xcps2 (α := Int32) ((x1 : Int32) + v2) (fun v3 ev3 => ?_)
      have rv3 := xc_rng v3
      refine xi_iadd (pc' := 13) (v := v3) kc_49_12 rfl ev3 ?_
      refine xi_istore_n (pc' := 14) (lv' := [(1, .int v3), (2, .int x2)]) kc_49_13 rfl rfl (xm_lt ml_49 rfl) ?_
      refine xi_iload_n (pc' := 15) (x := x2) kc_49_14 rfl rfl ?_
      refine xi_iconst (pc' := 16) (v := 2) kc_49_15 rfl rfl ?_
      refine xcps2 (α := Int32) (x2 / 2) (fun v4 ev4 => ?_)
      have dv4 : v4.toInt = x2.toInt / 2 := by rw [← ev4]; exact xz_dive (X := x2.toInt) (Y := 2) rfl (by decide) (by omega) (by decide)
      have bv4 : 0 ≤ v4.toInt ∧ v4.toInt ≤ 1073741823 := by omega
      refine xi_idiv (pc' := 17) (v := v4) kc_49_16 rfl ev4 (by decide) ?_
      refine xi_istore_n (pc' := 18) (lv' := [(2, .int v4), (1, .int v3)]) kc_49_17 rfl rfl (xm_lt ml_49 rfl) ?_
      refine xi_goto (pc' := 4) kc_49_18 rfl ?_
      refine xw_lv (b := [(1, .int v3), (2, .int v4)]) (lvS_cons (lvS_cons (lvS_nil (show ([2, 1] : List Nat).Nodup by decide)) rfl) rfl) ?_
      exact i0 v3 v4 h K (by omega)
set_option maxHeartbeats 4000000 in
theorem mt_49_0 {J : xe_J} {ov : List (List Int32)} (hJ : ∀ d mj as h, mj ≠ xe_loff → J d mj as h = none) (hov1 : ov[1]? = some [10, 0, 0, 0, 0, 0]) (hov2 : ov[2]? = some [99, 30, 50, 50, 1, 99999]) {d : Nat} {Q : Option Value → xe_H → Prop} {h : xe_H} {x0 : Int32} (T : xt h) (kk : (∀ (r : Int32) (h' : xe_H), xk [(0, 9), (115, 1), (83, 0), (29, 0), (31, 0), (33, 0), (35, 0), (37, 0), (39, 0), (41, 0), (43, 0), (45, 0), (47, 0), (49, 0), (51, 0), (125, 0), (66, 8), (115, 18), (71, 0), (132, 0)] h h' → Q (some (.int r)) h')) : xw J ov (d + 1) 49 (0, [(0, .int x0)], [], h) Q := by
  have K : xk [(0, 9), (115, 1), (83, 0), (29, 0), (31, 0), (33, 0), (35, 0), (37, 0), (39, 0), (41, 0), (43, 0), (45, 0), (47, 0), (49, 0), (51, 0), (125, 0), (66, 8), (115, 18), (71, 0), (132, 0)] h h := xk_re T
  have rx0 := xc_rng x0
  refine xi_iconst (pc' := 1) (v := 0) kc_49_0 rfl rfl ?_
  refine xi_istore_n (pc' := 2) (lv' := [(1, .int 0), (0, .int x0)]) kc_49_1 rfl rfl (xm_lt ml_49 rfl) ?_
  refine xi_iload_n (pc' := 3) (x := x0) kc_49_2 rfl rfl ?_
  refine xi_istore_n (pc' := 4) (lv' := [(2, .int x0), (1, .int 0), (0, .int x0)]) kc_49_3 rfl rfl (xm_lt ml_49 rfl) ?_
  have zc0 : (0 : Int32).toInt = 0 := by decide
  refine xw_lv (b := [(1, .int 0), (2, .int x0)]) (lvS_cons (lvS_cons (lvS_nil (show ([2, 1, 0] : List Nat).Nodup by decide)) rfl) rfl) ?_
  exact (lp_49_0 hJ hov1 hov2 (d := d) (hb := h) (fun r9 h9 K9 => kk r9 h9 (xk_tr K K9 rfl)) 4294967296) 0 x0 h (xk_re K.1) (by omega)
set_option maxHeartbeats 4000000 in
theorem lp_48_0 {J : xe_J} {ov : List (List Int32)} (hJ : ∀ d mj as h, mj ≠ xe_loff → J d mj as h = none) (hov1 : ov[1]? = some [10, 0, 0, 0, 0, 0]) (hov2 : ov[2]? = some [99, 30, 50, 50, 1, 99999]) {d : Nat} {Q : Option Value → xe_H → Prop} {hb : xe_H} (kk : (∀ (r : Int32) (h' : xe_H), (0 ≤ r.toInt ∧ r.toInt ≤ 63) → xk [(0, 9), (115, 1), (83, 0), (29, 0), (31, 0), (33, 0), (35, 0), (37, 0), (39, 0), (41, 0), (43, 0), (45, 0), (47, 0), (49, 0), (51, 0), (125, 0), (66, 8), (115, 18), (71, 0), (132, 0)] hb h' → Q (some (.int r)) h')) : ∀ m : Nat, (∀ (x1 : Int32) (x2 : Int32) (h : xe_H), (0 ≤ x1.toInt ∧ x1.toInt ≤ 63) → (1 ≤ x2.toInt ∧ x2.toInt ≤ 64) → xk [(0, 9), (115, 1), (83, 0), (29, 0), (31, 0), (33, 0), (35, 0), (37, 0), (39, 0), (41, 0), (43, 0), (45, 0), (47, 0), (49, 0), (51, 0), (125, 0), (66, 8), (115, 18), (71, 0), (132, 0)] hb h → (-1) * x2.toInt + 64 < (m : Int) → xw J ov (d + 7) 48 (8, [(0, .ref 115), (1, .int x1), (2, .int x2)], [], h) Q) := by
  intro m
  induction m with
  | zero =>
    intro x1 x2 h b1 b2 K hm; exfalso; omega
  | succ m ih =>
    have i0 := ih
    intro x1 x2 h b1 b2 K hm
    refine xi_iload_n (pc' := 9) (x := x2) kc_48_8 rfl rfl ?_
    refine xi_aload_n (pc' := 10) (x := 115) kc_48_9 rfl rfl ?_
    refine xp_115 K.1 (fun u1 u2 u3 u4 u5 u6 u7 u8 u9 u10 u11 u12 u13 bu1 bu2 bu3 bu4 bu5 bu6 bu7 bu8 bu9 bu10 bu11 bu12 bu13 A14 => ?_)
    refine xi_virtual (mj := 42) (as := []) (st1 := [.int x2]) (lv0 := [(0, .ref 115)]) kc_48_10 rfl rfl rfl rfl rfl A14 (Nat.le_of_ble_eq_true rfl) (hJ _ _ _ _ (by decide)) (xm_le ml_42 rfl) rfl ?_
    refine xi_iconst (pc' := 1) (v := 1) kc_42_0 rfl rfl ?_
    refine xi_aload_n (pc' := 2) (x := 115) kc_42_1 rfl rfl ?_
    refine xi_getfield (pc' := 5) (v := .int u5) kc_42_2 rfl rfl rfl A14 rfl ?_
    refine xi_bipush (pc' := 7) (v := 6) kc_42_5 rfl rfl ?_
    by_cases c15 : 6 ≤ u5.toInt
    · refine xi_cmt (pc' := 17) kc_42_7 rfl (xc_ge_t (X := u5.toInt) (Y := 6) rfl (by decide) (by omega)) ?_
      refine xi_bipush (pc' := 19) (v := 6) kc_42_17 rfl rfl ?_
      refine xi_ishl (pc' := 20) (v := 64) kc_42_19 rfl rfl ?_
      refine xi_ireturn kc_42_20 mr_42 rfl ?_
      show xw J ov (d + 7) 48 (13, [(0, .ref 115), (1, .int x1), (2, .int x2)], [.int 64, .int x2], h) _
      by_cases c16 : 64 ≤ x2.toInt
      · refine xi_cmt (pc' := 81) kc_48_13 rfl (xc_ge_t (X := x2.toInt) (Y := 64) rfl (by decide) (by omega)) ?_
        refine xi_iload_n (pc' := 82) (x := x1) kc_48_81 rfl rfl ?_
        refine xi_ireturn kc_48_82 mr_48 rfl ?_
        exact kk x1 h (by omega) K
      · refine xi_cmf (pc' := 16) kc_48_13 rfl (xc_ge_f (X := x2.toInt) (Y := 64) rfl (by decide) (by omega)) ?_
        refine xi_aload_n (pc' := 17) (x := 115) kc_48_16 rfl rfl ?_
        refine xi_getfield (pc' := 20) (v := .ref 149) kc_48_17 rfl rfl rfl A14 rfl ?_
        refine xi_iload_n (pc' := 21) (x := x2) kc_48_20 rfl rfl ?_
        obtain ⟨y17, A17, hy17⟩ := xk_larr K.1 xD_149
        refine xcps2 (α := Int64) (y17.getD (Int32.toNatClampNeg x2) 0) (fun v18 ev18 => ?_)
        refine xi_laload (pc' := 22) (v := v18) kc_48_21 rfl A17 rfl (xi_in (by omega) (by rw [hy17]; omega)) ev18 ?_
        refine xi_aload_n (pc' := 23) (x := 115) kc_48_22 rfl rfl ?_
        refine xi_getfield (pc' := 26) (v := .ref 149) kc_48_23 rfl rfl rfl A14 rfl ?_
        refine xi_iload_n (pc' := 27) (x := x1) kc_48_26 rfl rfl ?_
        refine xcps2 (α := Int64) (y17.getD (Int32.toNatClampNeg x1) 0) (fun v19 ev19 => ?_)
        refine xi_laload (pc' := 28) (v := v19) kc_48_27 rfl A17 rfl (xi_in (by omega) (by rw [hy17]; omega)) ev19 ?_
        refine xcps2 (α := Int32) (lg_cmp v18 v19) (fun v20 ev20 => ?_)
        have rv20 := xc_rng v20
        refine xi_lcmp (pc' := 29) (v := v20) kc_48_28 rfl ev20 ?_
        by_cases c21 : v20.toInt < 0
        · refine xi_ift (pc' := 59) kc_48_29 rfl (xc_lt_t (X := v20.toInt) (Y := 0) rfl (by decide) (by omega)) ?_
          refine xi_iconst (pc' := 60) (v := 1) kc_48_59 rfl rfl ?_
          refine xi_goto (pc' := 64) kc_48_60 rfl ?_
          refine xi_istore_n (pc' := 65) (lv' := [(3, .int 1), (0, .ref 115), (1, .int x1), (2, .int x2)]) kc_48_64 rfl rfl (xm_lt ml_48 rfl) ?_
          refine xi_iload_n (pc' := 66) (x := 1) kc_48_65 rfl rfl ?_
          refine xi_iff (pc' := 69) kc_48_66 rfl rfl ?_
          refine xi_iload_n (pc' := 70) (x := x2) kc_48_69 rfl rfl ?_
          refine xi_goto (pc' := 74) kc_48_70 rfl ?_
          refine xi_istore_n (pc' := 75) (lv' := [(1, .int x2), (3, .int 1), (0, .ref 115), (2, .int x2)]) kc_48_74 rfl rfl (xm_lt ml_48 rfl) ?_
          refine xcps2 (α := Int32) (x2 + 1) (fun v22 ev22 => ?_)
          have zv22 : v22.toInt = (x2.toInt + 1) := by rw [← ev22]; exact (xz_add (X := x2.toInt) (Y := 1) rfl (by decide) (by omega) (by omega)).trans (by omega)
          refine xi_iinc (pc' := 78) (x := x2) (v := v22) (lv' := [(2, .int v22), (1, .int x2), (3, .int 1), (0, .ref 115)]) kc_48_75 rfl rfl ev22 rfl (xm_lt ml_48 rfl) ?_
          refine xi_goto (pc' := 8) kc_48_78 rfl ?_
          refine xw_lv (b := [(0, .ref 115), (1, .int x2), (2, .int v22)]) (lvS_cons (lvS_cons (lvS_cons (lvS_nil (show ([2, 1, 3, 0] : List Nat).Nodup by decide)) rfl) rfl) rfl) ?_
          exact i0 x2 v22 h (by omega) (by omega) K (by omega)
        · refine xi_iff (pc' := 32) kc_48_29 rfl (xc_lt_f (X := v20.toInt) (Y := 0) rfl (by decide) (by omega)) ?_
          refine xi_aload_n (pc' := 33) (x := 115) kc_48_32 rfl rfl ?_
          refine xi_getfield (pc' := 36) (v := .ref 149) kc_48_33 rfl rfl rfl A14 rfl ?_
          refine xi_iload_n (pc' := 37) (x := x2) kc_48_36 rfl rfl ?_
          refine xi_laload (pc' := 38) (v := v18) kc_48_37 rfl A17 rfl (xi_in (by omega) (by rw [hy17]; omega)) ev18 ?_
          refine xi_aload_n (pc' := 39) (x := 115) kc_48_38 rfl rfl ?_
          refine xi_getfield (pc' := 42) (v := .ref 149) kc_48_39 rfl rfl rfl A14 rfl ?_
          refine xi_iload_n (pc' := 43) (x := x1) kc_48_42 rfl rfl ?_
          refine xi_laload (pc' := 44) (v := v19) kc_48_43 rfl A17 rfl (xi_in (by omega) (by rw [hy17]; omega)) ev19 ?_
          refine xcps2 (α := Int32) (lg_cmp v18 v19) (fun v23 ev23 => ?_)
          have rv23 := xc_rng v23
          refine xi_lcmp (pc' := 45) (v := v23) kc_48_44 rfl ev23 ?_
          by_cases c24 : v23.toInt = 0
          · refine xi_iff (pc' := 48) kc_48_45 rfl (xc_ne_f (X := v23.toInt) (Y := 0) rfl (by decide) (by omega)) ?_
            refine xi_iload_n (pc' := 49) (x := x2) kc_48_48 rfl rfl ?_
            refine xi_static (mj := 49) (as := [.int x2]) (st1 := []) (lv0 := [(0, .int x2)]) kc_48_49 rfl rfl (Nat.le_of_ble_eq_true rfl) rfl rfl (Nat.le_of_ble_eq_true rfl) (hJ _ _ _ _ (by decide)) (xm_le ml_49 rfl) rfl ?_
            refine mt_49_0 hJ hov1 hov2 (d := d + 5) (x0 := x2) K.1 (fun r25 hh26 K27 => ?_)
            have br25 := xc_rng r25
            have K28 := xk_tr K K27 rfl
            refine xp_115 K28.1 (fun u29 u30 u31 u32 u33 u34 u35 u36 u37 u38 u39 u40 u41 bu29 bu30 bu31 bu32 bu33 bu34 bu35 bu36 bu37 bu38 bu39 bu40 bu41 A42 => ?_)
            have e43 : u2 = u30 := xk_eqi (q := 1) K27 rfl A14 A42 rfl rfl
            subst e43
            have e44 : u4 = u32 := xk_eqi (q := 18) K27 rfl A14 A42 rfl rfl
            subst e44
            show xw J ov (d + 7) 48 (52, [(0, .ref 115), (1, .int x1), (2, .int x2)], [.int r25], hh26) _
            refine xi_iload_n (pc' := 53) (x := x1) kc_48_52 rfl rfl ?_
            refine xi_static (mj := 49) (as := [.int x1]) (st1 := [.int r25]) (lv0 := [(0, .int x1)]) kc_48_53 rfl rfl (Nat.le_of_ble_eq_true rfl) rfl rfl (Nat.le_of_ble_eq_true rfl) (hJ _ _ _ _ (by decide)) (xm_le ml_49 rfl) rfl ?_
            refine mt_49_0 hJ hov1 hov2 (d := d + 5) (x0 := x1) K28.1 (fun r45 hh46 K47 => ?_)
            have br45 := xc_rng r45
            have K48 := xk_tr K28 K47 rfl
            refine xp_115 K48.1 (fun u49 u50 u51 u52 u53 u54 u55 u56 u57 u58 u59 u60 u61 bu49 bu50 bu51 bu52 bu53 bu54 bu55 bu56 bu57 bu58 bu59 bu60 bu61 A62 => ?_)
            have e63 : u2 = u50 := xk_eqi (q := 1) K47 rfl A42 A62 rfl rfl
            subst e63
            have e64 : u4 = u52 := xk_eqi (q := 18) K47 rfl A42 A62 rfl rfl
            subst e64
            show xw J ov (d + 7) 48 (56, [(0, .ref 115), (1, .int x1), (2, .int x2)], [.int r45, .int r25], hh46) _
            by_cases c65 : r45.toInt ≤ r25.toInt
            · refine xi_cmt (pc' := 63) kc_48_56 rfl (xc_ge_t (X := r25.toInt) (Y := r45.toInt) rfl rfl (by omega)) ?_
              refine xi_iconst (pc' := 64) (v := 0) kc_48_63 rfl rfl ?_
              refine xi_istore_n (pc' := 65) (lv' := [(3, .int 0), (0, .ref 115), (1, .int x1), (2, .int x2)]) kc_48_64 rfl rfl (xm_lt ml_48 rfl) ?_
              refine xi_iload_n (pc' := 66) (x := 0) kc_48_65 rfl rfl ?_
              refine xi_ift (pc' := 73) kc_48_66 rfl rfl ?_
              refine xi_iload_n (pc' := 74) (x := x1) kc_48_73 rfl rfl ?_
              refine xi_istore_n (pc' := 75) (lv' := [(1, .int x1), (3, .int 0), (0, .ref 115), (2, .int x2)]) kc_48_74 rfl rfl (xm_lt ml_48 rfl) ?_
              refine xcps2 (α := Int32) (x2 + 1) (fun v66 ev66 => ?_)
              have zv66 : v66.toInt = (x2.toInt + 1) := by rw [← ev66]; exact (xz_add (X := x2.toInt) (Y := 1) rfl (by decide) (by omega) (by omega)).trans (by omega)
              refine xi_iinc (pc' := 78) (x := x2) (v := v66) (lv' := [(2, .int v66), (1, .int x1), (3, .int 0), (0, .ref 115)]) kc_48_75 rfl rfl ev66 rfl (xm_lt ml_48 rfl) ?_
              refine xi_goto (pc' := 8) kc_48_78 rfl ?_
              refine xw_lv (b := [(0, .ref 115), (1, .int x1), (2, .int v66)]) (lvS_cons (lvS_cons (lvS_cons (lvS_nil (show ([2, 1, 3, 0] : List Nat).Nodup by decide)) rfl) rfl) rfl) ?_
              exact i0 x1 v66 hh46 (by omega) (by omega) K48 (by omega)
            · refine xi_cmf (pc' := 59) kc_48_56 rfl (xc_ge_f (X := r25.toInt) (Y := r45.toInt) rfl rfl (by omega)) ?_
              refine xi_iconst (pc' := 60) (v := 1) kc_48_59 rfl rfl ?_
              refine xi_goto (pc' := 64) kc_48_60 rfl ?_
              refine xi_istore_n (pc' := 65) (lv' := [(3, .int 1), (0, .ref 115), (1, .int x1), (2, .int x2)]) kc_48_64 rfl rfl (xm_lt ml_48 rfl) ?_
              refine xi_iload_n (pc' := 66) (x := 1) kc_48_65 rfl rfl ?_
              refine xi_iff (pc' := 69) kc_48_66 rfl rfl ?_
              refine xi_iload_n (pc' := 70) (x := x2) kc_48_69 rfl rfl ?_
              refine xi_goto (pc' := 74) kc_48_70 rfl ?_
              refine xi_istore_n (pc' := 75) (lv' := [(1, .int x2), (3, .int 1), (0, .ref 115), (2, .int x2)]) kc_48_74 rfl rfl (xm_lt ml_48 rfl) ?_
              refine xcps2 (α := Int32) (x2 + 1) (fun v67 ev67 => ?_)
              have zv67 : v67.toInt = (x2.toInt + 1) := by rw [← ev67]; exact (xz_add (X := x2.toInt) (Y := 1) rfl (by decide) (by omega) (by omega)).trans (by omega)
              refine xi_iinc (pc' := 78) (x := x2) (v := v67) (lv' := [(2, .int v67), (1, .int x2), (3, .int 1), (0, .ref 115)]) kc_48_75 rfl rfl ev67 rfl (xm_lt ml_48 rfl) ?_
              refine xi_goto (pc' := 8) kc_48_78 rfl ?_
              refine xw_lv (b := [(0, .ref 115), (1, .int x2), (2, .int v67)]) (lvS_cons (lvS_cons (lvS_cons (lvS_nil (show ([2, 1, 3, 0] : List Nat).Nodup by decide)) rfl) rfl) rfl) ?_
              exact i0 x2 v67 hh46 (by omega) (by omega) K48 (by omega)
          · refine xi_ift (pc' := 63) kc_48_45 rfl (xc_ne_t (X := v23.toInt) (Y := 0) rfl (by decide) (by omega)) ?_
            refine xi_iconst (pc' := 64) (v := 0) kc_48_63 rfl rfl ?_
            refine xi_istore_n (pc' := 65) (lv' := [(3, .int 0), (0, .ref 115), (1, .int x1), (2, .int x2)]) kc_48_64 rfl rfl (xm_lt ml_48 rfl) ?_
            refine xi_iload_n (pc' := 66) (x := 0) kc_48_65 rfl rfl ?_
            refine xi_ift (pc' := 73) kc_48_66 rfl rfl ?_
            refine xi_iload_n (pc' := 74) (x := x1) kc_48_73 rfl rfl ?_
            refine xi_istore_n (pc' := 75) (lv' := [(1, .int x1), (3, .int 0), (0, .ref 115), (2, .int x2)]) kc_48_74 rfl rfl (xm_lt ml_48 rfl) ?_
            refine xcps2 (α := Int32) (x2 + 1) (fun v68 ev68 => ?_)
            have zv68 : v68.toInt = (x2.toInt + 1) := by rw [← ev68]; exact (xz_add (X := x2.toInt) (Y := 1) rfl (by decide) (by omega) (by omega)).trans (by omega)
            refine xi_iinc (pc' := 78) (x := x2) (v := v68) (lv' := [(2, .int v68), (1, .int x1), (3, .int 0), (0, .ref 115)]) kc_48_75 rfl rfl ev68 rfl (xm_lt ml_48 rfl) ?_
            refine xi_goto (pc' := 8) kc_48_78 rfl ?_
            refine xw_lv (b := [(0, .ref 115), (1, .int x1), (2, .int v68)]) (lvS_cons (lvS_cons (lvS_cons (lvS_nil (show ([2, 1, 3, 0] : List Nat).Nodup by decide)) rfl) rfl) rfl) ?_
            exact i0 x1 v68 h (by omega) (by omega) K (by omega)
    · refine xi_cmf (pc' := 10) kc_42_7 rfl (xc_ge_f (X := u5.toInt) (Y := 6) rfl (by decide) (by omega)) ?_
      refine xi_aload_n (pc' := 11) (x := 115) kc_42_10 rfl rfl ?_
      refine xi_getfield (pc' := 14) (v := .int u5) kc_42_11 rfl rfl rfl A14 rfl ?_
      refine xi_goto (pc' := 19) kc_42_14 rfl ?_
      refine xcps2 (α := Int32) ((1 : Int32) <<< (u5 &&& 31)) (fun v69 ev69 => ?_)
      have rv69 := xc_rng v69
      have bv69 : 1 ≤ v69.toInt ∧ v69.toInt ≤ 64 := by rw [← ev69]; exact xj_shl6 (by omega) (by omega)
      refine xi_ishl (pc' := 20) (v := v69) kc_42_19 rfl ev69 ?_
      refine xi_ireturn kc_42_20 mr_42 rfl ?_
      show xw J ov (d + 7) 48 (13, [(0, .ref 115), (1, .int x1), (2, .int x2)], [.int v69, .int x2], h) _
      by_cases c70 : v69.toInt ≤ x2.toInt
      · refine xi_cmt (pc' := 81) kc_48_13 rfl (xc_ge_t (X := x2.toInt) (Y := v69.toInt) rfl rfl (by omega)) ?_
        refine xi_iload_n (pc' := 82) (x := x1) kc_48_81 rfl rfl ?_
        refine xi_ireturn kc_48_82 mr_48 rfl ?_
        exact kk x1 h (by omega) K
      · refine xi_cmf (pc' := 16) kc_48_13 rfl (xc_ge_f (X := x2.toInt) (Y := v69.toInt) rfl rfl (by omega)) ?_
        refine xi_aload_n (pc' := 17) (x := 115) kc_48_16 rfl rfl ?_
        refine xi_getfield (pc' := 20) (v := .ref 149) kc_48_17 rfl rfl rfl A14 rfl ?_
        refine xi_iload_n (pc' := 21) (x := x2) kc_48_20 rfl rfl ?_
        obtain ⟨y71, A71, hy71⟩ := xk_larr K.1 xD_149
        refine xcps2 (α := Int64) (y71.getD (Int32.toNatClampNeg x2) 0) (fun v72 ev72 => ?_)
        refine xi_laload (pc' := 22) (v := v72) kc_48_21 rfl A71 rfl (xi_in (by omega) (by rw [hy71]; omega)) ev72 ?_
        refine xi_aload_n (pc' := 23) (x := 115) kc_48_22 rfl rfl ?_
        refine xi_getfield (pc' := 26) (v := .ref 149) kc_48_23 rfl rfl rfl A14 rfl ?_
        refine xi_iload_n (pc' := 27) (x := x1) kc_48_26 rfl rfl ?_
        refine xcps2 (α := Int64) (y71.getD (Int32.toNatClampNeg x1) 0) (fun v73 ev73 => ?_)
        refine xi_laload (pc' := 28) (v := v73) kc_48_27 rfl A71 rfl (xi_in (by omega) (by rw [hy71]; omega)) ev73 ?_
        refine xcps2 (α := Int32) (lg_cmp v72 v73) (fun v74 ev74 => ?_)
        have rv74 := xc_rng v74
        refine xi_lcmp (pc' := 29) (v := v74) kc_48_28 rfl ev74 ?_
        by_cases c75 : v74.toInt < 0
        · refine xi_ift (pc' := 59) kc_48_29 rfl (xc_lt_t (X := v74.toInt) (Y := 0) rfl (by decide) (by omega)) ?_
          refine xi_iconst (pc' := 60) (v := 1) kc_48_59 rfl rfl ?_
          refine xi_goto (pc' := 64) kc_48_60 rfl ?_
          refine xi_istore_n (pc' := 65) (lv' := [(3, .int 1), (0, .ref 115), (1, .int x1), (2, .int x2)]) kc_48_64 rfl rfl (xm_lt ml_48 rfl) ?_
          refine xi_iload_n (pc' := 66) (x := 1) kc_48_65 rfl rfl ?_
          refine xi_iff (pc' := 69) kc_48_66 rfl rfl ?_
          refine xi_iload_n (pc' := 70) (x := x2) kc_48_69 rfl rfl ?_
          refine xi_goto (pc' := 74) kc_48_70 rfl ?_
          refine xi_istore_n (pc' := 75) (lv' := [(1, .int x2), (3, .int 1), (0, .ref 115), (2, .int x2)]) kc_48_74 rfl rfl (xm_lt ml_48 rfl) ?_
          refine xcps2 (α := Int32) (x2 + 1) (fun v76 ev76 => ?_)
          have zv76 : v76.toInt = (x2.toInt + 1) := by rw [← ev76]; exact (xz_add (X := x2.toInt) (Y := 1) rfl (by decide) (by omega) (by omega)).trans (by omega)
          refine xi_iinc (pc' := 78) (x := x2) (v := v76) (lv' := [(2, .int v76), (1, .int x2), (3, .int 1), (0, .ref 115)]) kc_48_75 rfl rfl ev76 rfl (xm_lt ml_48 rfl) ?_
          refine xi_goto (pc' := 8) kc_48_78 rfl ?_
          refine xw_lv (b := [(0, .ref 115), (1, .int x2), (2, .int v76)]) (lvS_cons (lvS_cons (lvS_cons (lvS_nil (show ([2, 1, 3, 0] : List Nat).Nodup by decide)) rfl) rfl) rfl) ?_
          exact i0 x2 v76 h (by omega) (by omega) K (by omega)
        · refine xi_iff (pc' := 32) kc_48_29 rfl (xc_lt_f (X := v74.toInt) (Y := 0) rfl (by decide) (by omega)) ?_
          refine xi_aload_n (pc' := 33) (x := 115) kc_48_32 rfl rfl ?_
          refine xi_getfield (pc' := 36) (v := .ref 149) kc_48_33 rfl rfl rfl A14 rfl ?_
          refine xi_iload_n (pc' := 37) (x := x2) kc_48_36 rfl rfl ?_
          refine xi_laload (pc' := 38) (v := v72) kc_48_37 rfl A71 rfl (xi_in (by omega) (by rw [hy71]; omega)) ev72 ?_
          refine xi_aload_n (pc' := 39) (x := 115) kc_48_38 rfl rfl ?_
          refine xi_getfield (pc' := 42) (v := .ref 149) kc_48_39 rfl rfl rfl A14 rfl ?_
          refine xi_iload_n (pc' := 43) (x := x1) kc_48_42 rfl rfl ?_
          refine xi_laload (pc' := 44) (v := v73) kc_48_43 rfl A71 rfl (xi_in (by omega) (by rw [hy71]; omega)) ev73 ?_
          refine xcps2 (α := Int32) (lg_cmp v72 v73) (fun v77 ev77 => ?_)
          have rv77 := xc_rng v77
          refine xi_lcmp (pc' := 45) (v := v77) kc_48_44 rfl ev77 ?_
          by_cases c78 : v77.toInt = 0
          · refine xi_iff (pc' := 48) kc_48_45 rfl (xc_ne_f (X := v77.toInt) (Y := 0) rfl (by decide) (by omega)) ?_
            refine xi_iload_n (pc' := 49) (x := x2) kc_48_48 rfl rfl ?_
            refine xi_static (mj := 49) (as := [.int x2]) (st1 := []) (lv0 := [(0, .int x2)]) kc_48_49 rfl rfl (Nat.le_of_ble_eq_true rfl) rfl rfl (Nat.le_of_ble_eq_true rfl) (hJ _ _ _ _ (by decide)) (xm_le ml_49 rfl) rfl ?_
            refine mt_49_0 hJ hov1 hov2 (d := d + 5) (x0 := x2) K.1 (fun r79 hh80 K81 => ?_)
            have br79 := xc_rng r79
            have K82 := xk_tr K K81 rfl
            refine xp_115 K82.1 (fun u83 u84 u85 u86 u87 u88 u89 u90 u91 u92 u93 u94 u95 bu83 bu84 bu85 bu86 bu87 bu88 bu89 bu90 bu91 bu92 bu93 bu94 bu95 A96 => ?_)
            have e97 : u2 = u84 := xk_eqi (q := 1) K81 rfl A14 A96 rfl rfl
            subst e97
            have e98 : u4 = u86 := xk_eqi (q := 18) K81 rfl A14 A96 rfl rfl
            subst e98
            show xw J ov (d + 7) 48 (52, [(0, .ref 115), (1, .int x1), (2, .int x2)], [.int r79], hh80) _
            refine xi_iload_n (pc' := 53) (x := x1) kc_48_52 rfl rfl ?_
            refine xi_static (mj := 49) (as := [.int x1]) (st1 := [.int r79]) (lv0 := [(0, .int x1)]) kc_48_53 rfl rfl (Nat.le_of_ble_eq_true rfl) rfl rfl (Nat.le_of_ble_eq_true rfl) (hJ _ _ _ _ (by decide)) (xm_le ml_49 rfl) rfl ?_
            refine mt_49_0 hJ hov1 hov2 (d := d + 5) (x0 := x1) K82.1 (fun r99 hh100 K101 => ?_)
            have br99 := xc_rng r99
            have K102 := xk_tr K82 K101 rfl
            refine xp_115 K102.1 (fun u103 u104 u105 u106 u107 u108 u109 u110 u111 u112 u113 u114 u115 bu103 bu104 bu105 bu106 bu107 bu108 bu109 bu110 bu111 bu112 bu113 bu114 bu115 A116 => ?_)
            have e117 : u2 = u104 := xk_eqi (q := 1) K101 rfl A96 A116 rfl rfl
            subst e117
            have e118 : u4 = u106 := xk_eqi (q := 18) K101 rfl A96 A116 rfl rfl
            subst e118
            show xw J ov (d + 7) 48 (56, [(0, .ref 115), (1, .int x1), (2, .int x2)], [.int r99, .int r79], hh100) _
            by_cases c119 : r99.toInt ≤ r79.toInt
            · refine xi_cmt (pc' := 63) kc_48_56 rfl (xc_ge_t (X := r79.toInt) (Y := r99.toInt) rfl rfl (by omega)) ?_
              refine xi_iconst (pc' := 64) (v := 0) kc_48_63 rfl rfl ?_
              refine xi_istore_n (pc' := 65) (lv' := [(3, .int 0), (0, .ref 115), (1, .int x1), (2, .int x2)]) kc_48_64 rfl rfl (xm_lt ml_48 rfl) ?_
              refine xi_iload_n (pc' := 66) (x := 0) kc_48_65 rfl rfl ?_
              refine xi_ift (pc' := 73) kc_48_66 rfl rfl ?_
              refine xi_iload_n (pc' := 74) (x := x1) kc_48_73 rfl rfl ?_
              refine xi_istore_n (pc' := 75) (lv' := [(1, .int x1), (3, .int 0), (0, .ref 115), (2, .int x2)]) kc_48_74 rfl rfl (xm_lt ml_48 rfl) ?_
              refine xcps2 (α := Int32) (x2 + 1) (fun v120 ev120 => ?_)
              have zv120 : v120.toInt = (x2.toInt + 1) := by rw [← ev120]; exact (xz_add (X := x2.toInt) (Y := 1) rfl (by decide) (by omega) (by omega)).trans (by omega)
              refine xi_iinc (pc' := 78) (x := x2) (v := v120) (lv' := [(2, .int v120), (1, .int x1), (3, .int 0), (0, .ref 115)]) kc_48_75 rfl rfl ev120 rfl (xm_lt ml_48 rfl) ?_
              refine xi_goto (pc' := 8) kc_48_78 rfl ?_
              refine xw_lv (b := [(0, .ref 115), (1, .int x1), (2, .int v120)]) (lvS_cons (lvS_cons (lvS_cons (lvS_nil (show ([2, 1, 3, 0] : List Nat).Nodup by decide)) rfl) rfl) rfl) ?_
              exact i0 x1 v120 hh100 (by omega) (by omega) K102 (by omega)
            · refine xi_cmf (pc' := 59) kc_48_56 rfl (xc_ge_f (X := r79.toInt) (Y := r99.toInt) rfl rfl (by omega)) ?_
              refine xi_iconst (pc' := 60) (v := 1) kc_48_59 rfl rfl ?_
              refine xi_goto (pc' := 64) kc_48_60 rfl ?_
              refine xi_istore_n (pc' := 65) (lv' := [(3, .int 1), (0, .ref 115), (1, .int x1), (2, .int x2)]) kc_48_64 rfl rfl (xm_lt ml_48 rfl) ?_
              refine xi_iload_n (pc' := 66) (x := 1) kc_48_65 rfl rfl ?_
              refine xi_iff (pc' := 69) kc_48_66 rfl rfl ?_
              refine xi_iload_n (pc' := 70) (x := x2) kc_48_69 rfl rfl ?_
              refine xi_goto (pc' := 74) kc_48_70 rfl ?_
              refine xi_istore_n (pc' := 75) (lv' := [(1, .int x2), (3, .int 1), (0, .ref 115), (2, .int x2)]) kc_48_74 rfl rfl (xm_lt ml_48 rfl) ?_
              refine xcps2 (α := Int32) (x2 + 1) (fun v121 ev121 => ?_)
              have zv121 : v121.toInt = (x2.toInt + 1) := by rw [← ev121]; exact (xz_add (X := x2.toInt) (Y := 1) rfl (by decide) (by omega) (by omega)).trans (by omega)
              refine xi_iinc (pc' := 78) (x := x2) (v := v121) (lv' := [(2, .int v121), (1, .int x2), (3, .int 1), (0, .ref 115)]) kc_48_75 rfl rfl ev121 rfl (xm_lt ml_48 rfl) ?_
              refine xi_goto (pc' := 8) kc_48_78 rfl ?_
              refine xw_lv (b := [(0, .ref 115), (1, .int x2), (2, .int v121)]) (lvS_cons (lvS_cons (lvS_cons (lvS_nil (show ([2, 1, 3, 0] : List Nat).Nodup by decide)) rfl) rfl) rfl) ?_
              exact i0 x2 v121 hh100 (by omega) (by omega) K102 (by omega)
          · refine xi_ift (pc' := 63) kc_48_45 rfl (xc_ne_t (X := v77.toInt) (Y := 0) rfl (by decide) (by omega)) ?_
            refine xi_iconst (pc' := 64) (v := 0) kc_48_63 rfl rfl ?_
            refine xi_istore_n (pc' := 65) (lv' := [(3, .int 0), (0, .ref 115), (1, .int x1), (2, .int x2)]) kc_48_64 rfl rfl (xm_lt ml_48 rfl) ?_
            refine xi_iload_n (pc' := 66) (x := 0) kc_48_65 rfl rfl ?_
            refine xi_ift (pc' := 73) kc_48_66 rfl rfl ?_
            refine xi_iload_n (pc' := 74) (x := x1) kc_48_73 rfl rfl ?_
            refine xi_istore_n (pc' := 75) (lv' := [(1, .int x1), (3, .int 0), (0, .ref 115), (2, .int x2)]) kc_48_74 rfl rfl (xm_lt ml_48 rfl) ?_
            refine xcps2 (α := Int32) (x2 + 1) (fun v122 ev122 => ?_)
            have zv122 : v122.toInt = (x2.toInt + 1) := by rw [← ev122]; exact (xz_add (X := x2.toInt) (Y := 1) rfl (by decide) (by omega) (by omega)).trans (by omega)
            refine xi_iinc (pc' := 78) (x := x2) (v := v122) (lv' := [(2, .int v122), (1, .int x1), (3, .int 0), (0, .ref 115)]) kc_48_75 rfl rfl ev122 rfl (xm_lt ml_48 rfl) ?_
            refine xi_goto (pc' := 8) kc_48_78 rfl ?_
            refine xw_lv (b := [(0, .ref 115), (1, .int x1), (2, .int v122)]) (lvS_cons (lvS_cons (lvS_cons (lvS_nil (show ([2, 1, 3, 0] : List Nat).Nodup by decide)) rfl) rfl) rfl) ?_
            exact i0 x1 v122 h (by omega) (by omega) K (by omega)
set_option maxHeartbeats 4000000 in
theorem mt_48_0 {J : xe_J} {ov : List (List Int32)} (hJ : ∀ d mj as h, mj ≠ xe_loff → J d mj as h = none) (hov1 : ov[1]? = some [10, 0, 0, 0, 0, 0]) (hov2 : ov[2]? = some [99, 30, 50, 50, 1, 99999]) {d : Nat} {Q : Option Value → xe_H → Prop} {h : xe_H} (T : xt h) (kk : (∀ (r : Int32) (h' : xe_H), (0 ≤ r.toInt ∧ r.toInt ≤ 63) → xk [(0, 9), (115, 1), (83, 0), (29, 0), (31, 0), (33, 0), (35, 0), (37, 0), (39, 0), (41, 0), (43, 0), (45, 0), (47, 0), (49, 0), (51, 0), (125, 0), (66, 8), (115, 18), (71, 0), (132, 0)] h h' → Q (some (.int r)) h')) : xw J ov (d + 7) 48 (0, [(0, .ref 115)], [], h) Q := by
  have K : xk [(0, 9), (115, 1), (83, 0), (29, 0), (31, 0), (33, 0), (35, 0), (37, 0), (39, 0), (41, 0), (43, 0), (45, 0), (47, 0), (49, 0), (51, 0), (125, 0), (66, 8), (115, 18), (71, 0), (132, 0)] h h := xk_re T
  refine xi_aload_n (pc' := 1) (x := 115) kc_48_0 rfl rfl ?_
  refine xp_115 K.1 (fun u1 u2 u3 u4 u5 u6 u7 u8 u9 u10 u11 u12 u13 bu1 bu2 bu3 bu4 bu5 bu6 bu7 bu8 bu9 bu10 bu11 bu12 bu13 A14 => ?_)
  refine xi_virtual (mj := 43) (as := []) (st1 := []) (lv0 := [(0, .ref 115)]) kc_48_1 rfl rfl rfl rfl rfl A14 (Nat.le_of_ble_eq_true rfl) (hJ _ _ _ _ (by decide)) (xm_le ml_43 rfl) rfl ?_
  refine mt_43_0 hJ hov1 hov2 (d := d)  K.1 (fun hh16 K17 => ?_)
  have K18 := xk_tr K K17 rfl
  refine xp_115 K18.1 (fun u19 u20 u21 u22 u23 u24 u25 u26 u27 u28 u29 u30 u31 bu19 bu20 bu21 bu22 bu23 bu24 bu25 bu26 bu27 bu28 bu29 bu30 bu31 A32 => ?_)
  have e33 : u2 = u20 := xk_eqi (q := 1) K17 rfl A14 A32 rfl rfl
  subst e33
  have e34 : u4 = u22 := xk_eqi (q := 18) K17 rfl A14 A32 rfl rfl
  subst e34
  show xw J ov (d + 7) 48 (4, [(0, .ref 115)], [], hh16) _
  refine xi_iconst (pc' := 5) (v := 0) kc_48_4 rfl rfl ?_
  refine xi_istore_n (pc' := 6) (lv' := [(1, .int 0), (0, .ref 115)]) kc_48_5 rfl rfl (xm_lt ml_48 rfl) ?_
  refine xi_iconst (pc' := 7) (v := 1) kc_48_6 rfl rfl ?_
  refine xi_istore_n (pc' := 8) (lv' := [(2, .int 1), (1, .int 0), (0, .ref 115)]) kc_48_7 rfl rfl (xm_lt ml_48 rfl) ?_
  have zc0 : (0 : Int32).toInt = 0 := by decide
  have zc1 : (1 : Int32).toInt = 1 := by decide
  refine xw_lv (b := [(0, .ref 115), (1, .int 0), (2, .int 1)]) (lvS_cons (lvS_cons (lvS_cons (lvS_nil (show ([2, 1, 0] : List Nat).Nodup by decide)) rfl) rfl) rfl) ?_
  exact (lp_48_0 hJ hov1 hov2 (d := d) (hb := hh16) (fun r9 h9 b9 K9 => kk r9 h9 b9 (xk_tr K18 K9 rfl)) 64) 0 1 hh16 (by omega) (by omega) (xk_re K18.1) (by omega)
set_option maxHeartbeats 4000000 in
theorem mt_47_0 {J : xe_J} {ov : List (List Int32)} (hJ : ∀ d mj as h, mj ≠ xe_loff → J d mj as h = none) (hov1 : ov[1]? = some [10, 0, 0, 0, 0, 0]) (hov2 : ov[2]? = some [99, 30, 50, 50, 1, 99999]) {d : Nat} {Q : Option Value → xe_H → Prop} {h : xe_H} (T : xt h) (kk : (∀ (r : Int32) (h' : xe_H), (0 ≤ r.toInt ∧ r.toInt ≤ 63) → xk [(0, 9), (115, 1), (83, 0), (29, 0), (31, 0), (33, 0), (35, 0), (37, 0), (39, 0), (41, 0), (43, 0), (45, 0), (47, 0), (49, 0), (51, 0), (125, 0), (66, 8), (115, 18), (71, 0), (132, 0)] h h' → Q (some (.int r)) h')) : xw J ov (d + 8) 47 (0, [(0, .ref 115)], [], h) Q := by
  have K : xk [(0, 9), (115, 1), (83, 0), (29, 0), (31, 0), (33, 0), (35, 0), (37, 0), (39, 0), (41, 0), (43, 0), (45, 0), (47, 0), (49, 0), (51, 0), (125, 0), (66, 8), (115, 18), (71, 0), (132, 0)] h h := xk_re T
  refine xi_aload_n (pc' := 1) (x := 115) kc_47_0 rfl rfl ?_
  refine xi_iconst (pc' := 2) (v := 0) kc_47_1 rfl rfl ?_
  refine xp_115 K.1 (fun u1 u2 u3 u4 u5 u6 u7 u8 u9 u10 u11 u12 u13 bu1 bu2 bu3 bu4 bu5 bu6 bu7 bu8 bu9 bu10 bu11 bu12 bu13 A14 => ?_)
  refine xi_putfield (pc' := 5) (fs' := [.int 0, .int u2, .ref 116, .ref 117, .ref 118, .ref 119, .ref 120, .ref 121, .ref 122, .ref 123, .ref 124, .ref 125, .ref 126, .ref 127, .ref 128, .ref 129, .int u3, .ref 130, .int u4, .ref 131, .ref 132, .ref 133, .ref 134, .int u5, .ref 135, .ref 136, .ref 137, .ref 138, .ref 139, .ref 140, .ref 141, .ref 142, .int u6, .int u7, .int u8, .ref 143, .ref 144, .ref 145, .ref 146, .ref 147, .ref 148, .int u9, .ref 149, .ref 150, .ref 151, .int u10, .ref 152, .ref 153, .ref 154, .ref 155, .ref 156, .ref 157, .ref 158, .ref 159, .int u11, .ref 160, .int u12, .ref 161, .ref 162, .ref 163, .ref 164, .int u13, .ref 165, .ref 166]) kc_47_2 rfl rfl rfl A14 rfl rfl rfl (Nat.le_of_ble_eq_true rfl) rfl (fun hh16 eh15 => ?_)
  have K17 := xk_pf (k := 0) (v := 0) K (xk_wf rfl) xD_115 A14 rfl (by first | omega | decide) (by first | omega | decide) eh15 rfl
  refine xi_aload_n (pc' := 6) (x := 115) kc_47_5 rfl rfl ?_
  refine xi_virtual (mj := 48) (as := []) (st1 := []) (lv0 := [(0, .ref 115)]) kc_47_6 rfl rfl rfl rfl rfl eh15.1 (Nat.le_of_ble_eq_true rfl) (hJ _ _ _ _ (by decide)) (xm_le ml_48 rfl) rfl ?_
  refine mt_48_0 hJ hov1 hov2 (d := d)  K17.1 (fun r18 hh19 br18 K20 => ?_)
  have K21 := xk_tr K17 K20 rfl
  refine xp_115 K21.1 (fun u22 u23 u24 u25 u26 u27 u28 u29 u30 u31 u32 u33 u34 bu22 bu23 bu24 bu25 bu26 bu27 bu28 bu29 bu30 bu31 bu32 bu33 bu34 A35 => ?_)
  have e36 : u2 = u23 := xk_eqi (q := 1) K20 rfl eh15.1 A35 rfl rfl
  subst e36
  have e37 : u4 = u25 := xk_eqi (q := 18) K20 rfl eh15.1 A35 rfl rfl
  subst e37
  show xw J ov (d + 8) 47 (9, [(0, .ref 115)], [.int r18], hh19) _
  refine xi_ireturn kc_47_9 mr_47 rfl ?_
  exact kk r18 hh19 (by omega) K21
set_option maxHeartbeats 4000000 in
theorem lp_50_0 {J : xe_J} {ov : List (List Int32)} (hJ : ∀ d mj as h, mj ≠ xe_loff → J d mj as h = none) (hov1 : ov[1]? = some [10, 0, 0, 0, 0, 0]) (hov2 : ov[2]? = some [99, 30, 50, 50, 1, 99999]) {d : Nat} {Q : Option Value → xe_H → Prop} {hb : xe_H} (kk : (∀ (r : Int32) (h' : xe_H), xk [(0, 9), (115, 1), (83, 0), (29, 0), (31, 0), (33, 0), (35, 0), (37, 0), (39, 0), (41, 0), (43, 0), (45, 0), (47, 0), (49, 0), (51, 0), (125, 0), (66, 8), (115, 18), (71, 0), (132, 0)] hb h' → Q (some (.int r)) h')) : ∀ m : Nat, (∀ (x1 : Int32) (x2 : Int32) (x3 : Int32) (x4 : Int32) (h : xe_H), (0 ≤ x1.toInt ∧ x1.toInt ≤ 1) → (0 ≤ x4.toInt ∧ x4.toInt ≤ 64) → xk [(0, 9), (115, 1), (83, 0), (29, 0), (31, 0), (33, 0), (35, 0), (37, 0), (39, 0), (41, 0), (43, 0), (45, 0), (47, 0), (49, 0), (51, 0), (125, 0), (66, 8), (115, 18), (71, 0), (132, 0)] hb h → (-1) * x4.toInt + 64 < (m : Int) → xw J ov (d + 7) 50 (33, [(0, .ref 115), (1, .int x1), (2, .int x2), (3, .int x3), (4, .int x4)], [], h) Q) := by
  intro m
  induction m with
  | zero =>
    intro x1 x2 x3 x4 h b1 b4 K hm; have rx2 := xc_rng x2; have rx3 := xc_rng x3; exfalso; omega
  | succ m ih =>
    have i0 := ih
    intro x1 x2 x3 x4 h b1 b4 K hm
    have rx2 := xc_rng x2
    have rx3 := xc_rng x3
    refine xi_iload (pc' := 35) (x := x4) kc_50_33 rfl rfl ?_
    refine xi_aload_n (pc' := 36) (x := 115) kc_50_35 rfl rfl ?_
    refine xp_115 K.1 (fun u1 u2 u3 u4 u5 u6 u7 u8 u9 u10 u11 u12 u13 bu1 bu2 bu3 bu4 bu5 bu6 bu7 bu8 bu9 bu10 bu11 bu12 bu13 A14 => ?_)
    refine xi_virtual (mj := 42) (as := []) (st1 := [.int x4]) (lv0 := [(0, .ref 115)]) kc_50_36 rfl rfl rfl rfl rfl A14 (Nat.le_of_ble_eq_true rfl) (hJ _ _ _ _ (by decide)) (xm_le ml_42 rfl) rfl ?_
    refine xi_iconst (pc' := 1) (v := 1) kc_42_0 rfl rfl ?_
    refine xi_aload_n (pc' := 2) (x := 115) kc_42_1 rfl rfl ?_
    refine xi_getfield (pc' := 5) (v := .int u5) kc_42_2 rfl rfl rfl A14 rfl ?_
    refine xi_bipush (pc' := 7) (v := 6) kc_42_5 rfl rfl ?_
    by_cases c15 : 6 ≤ u5.toInt
    · refine xi_cmt (pc' := 17) kc_42_7 rfl (xc_ge_t (X := u5.toInt) (Y := 6) rfl (by decide) (by omega)) ?_
      refine xi_bipush (pc' := 19) (v := 6) kc_42_17 rfl rfl ?_
      refine xi_ishl (pc' := 20) (v := 64) kc_42_19 rfl rfl ?_
      refine xi_ireturn kc_42_20 mr_42 rfl ?_
      show xw J ov (d + 7) 50 (39, [(0, .ref 115), (1, .int x1), (2, .int x2), (3, .int x3), (4, .int x4)], [.int 64, .int x4], h) _
      by_cases c16 : 64 ≤ x4.toInt
      · refine xi_cmt (pc' := 109) kc_50_39 rfl (xc_ge_t (X := x4.toInt) (Y := 64) rfl (by decide) (by omega)) ?_
        refine xi_iload_n (pc' := 110) (x := x2) kc_50_109 rfl rfl ?_
        by_cases c17 : x2.toInt = 0
        · refine xi_iff (pc' := 113) kc_50_110 rfl (xc_ne_f (X := x2.toInt) (Y := 0) rfl (by decide) (by omega)) ?_
          refine xi_bipush (pc' := 115) (v := (-9)) kc_50_113 rfl rfl ?_
          refine xi_goto (pc' := 127) kc_50_115 rfl ?_
          refine xi_ireturn kc_50_127 mr_50 rfl ?_
          have zcm9 : ((-9) : Int32).toInt = (-9) := by decide
          exact kk (-9) h K
        · refine xi_ift (pc' := 118) kc_50_110 rfl (xc_ne_t (X := x2.toInt) (Y := 0) rfl (by decide) (by omega)) ?_
          refine xi_iload_n (pc' := 119) (x := x1) kc_50_118 rfl rfl ?_
          by_cases c18 : x1.toInt = 0
          · refine xi_iff (pc' := 122) kc_50_119 rfl (xc_ne_f (X := x1.toInt) (Y := 0) rfl (by decide) (by omega)) ?_
            refine xi_iload_n (pc' := 123) (x := x2) kc_50_122 rfl rfl ?_
            refine xi_goto (pc' := 127) kc_50_123 rfl ?_
            refine xi_ireturn kc_50_127 mr_50 rfl ?_
            exact kk x2 h K
          · refine xi_ift (pc' := 126) kc_50_119 rfl (xc_ne_t (X := x1.toInt) (Y := 0) rfl (by decide) (by omega)) ?_
            refine xi_iload_n (pc' := 127) (x := x3) kc_50_126 rfl rfl ?_
            refine xi_ireturn kc_50_127 mr_50 rfl ?_
            exact kk x3 h K
      · refine xi_cmf (pc' := 42) kc_50_39 rfl (xc_ge_f (X := x4.toInt) (Y := 64) rfl (by decide) (by omega)) ?_
        refine xi_aload_n (pc' := 43) (x := 115) kc_50_42 rfl rfl ?_
        refine xi_getfield (pc' := 46) (v := .ref 149) kc_50_43 rfl rfl rfl A14 rfl ?_
        refine xi_iload (pc' := 48) (x := x4) kc_50_46 rfl rfl ?_
        obtain ⟨y19, A19, hy19⟩ := xk_larr K.1 xD_149
        refine xcps2 (α := Int64) (y19.getD (Int32.toNatClampNeg x4) 0) (fun v20 ev20 => ?_)
        refine xi_laload (pc' := 49) (v := v20) kc_50_48 rfl A19 rfl (xi_in (by omega) (by rw [hy19]; omega)) ev20 ?_
        refine xi_lconst (pc' := 50) (v := 0) kc_50_49 rfl rfl ?_
        refine xcps2 (α := Int32) (lg_cmp v20 0) (fun v21 ev21 => ?_)
        have rv21 := xc_rng v21
        refine xi_lcmp (pc' := 51) (v := v21) kc_50_50 rfl ev21 ?_
        by_cases c22 : v21.toInt = 0
        · refine xi_iff (pc' := 54) kc_50_51 rfl (xc_ne_f (X := v21.toInt) (Y := 0) rfl (by decide) (by omega)) ?_
          refine xi_iload (pc' := 56) (x := x4) kc_50_54 rfl rfl ?_
          refine xi_static (mj := 49) (as := [.int x4]) (st1 := []) (lv0 := [(0, .int x4)]) kc_50_56 rfl rfl (Nat.le_of_ble_eq_true rfl) rfl rfl (Nat.le_of_ble_eq_true rfl) (hJ _ _ _ _ (by decide)) (xm_le ml_49 rfl) rfl ?_
          refine mt_49_0 hJ hov1 hov2 (d := d + 5) (x0 := x4) K.1 (fun r23 hh24 K25 => ?_)
          have br23 := xc_rng r23
          have K26 := xk_tr K K25 rfl
          refine xp_115 K26.1 (fun u27 u28 u29 u30 u31 u32 u33 u34 u35 u36 u37 u38 u39 bu27 bu28 bu29 bu30 bu31 bu32 bu33 bu34 bu35 bu36 bu37 bu38 bu39 A40 => ?_)
          have e41 : u2 = u28 := xk_eqi (q := 1) K25 rfl A14 A40 rfl rfl
          subst e41
          have e42 : u4 = u30 := xk_eqi (q := 18) K25 rfl A14 A40 rfl rfl
          subst e42
          show xw J ov (d + 7) 50 (59, [(0, .ref 115), (1, .int x1), (2, .int x2), (3, .int x3), (4, .int x4)], [.int r23], hh24) _
          refine xi_iload_n (pc' := 60) (x := x3) kc_50_59 rfl rfl ?_
          by_cases c43 : x3.toInt ≤ r23.toInt
          · refine xi_cmt (pc' := 67) kc_50_60 rfl (xc_ge_t (X := r23.toInt) (Y := x3.toInt) rfl rfl (by omega)) ?_
            refine xi_iload (pc' := 69) (x := x4) kc_50_67 rfl rfl ?_
            refine xi_static (mj := 49) (as := [.int x4]) (st1 := []) (lv0 := [(0, .int x4)]) kc_50_69 rfl rfl (Nat.le_of_ble_eq_true rfl) rfl rfl (Nat.le_of_ble_eq_true rfl) (hJ _ _ _ _ (by decide)) (xm_le ml_49 rfl) rfl ?_
            refine mt_49_0 hJ hov1 hov2 (d := d + 5) (x0 := x4) K26.1 (fun r44 hh45 K46 => ?_)
            have br44 := xc_rng r44
            have K47 := xk_tr K26 K46 rfl
            refine xp_115 K47.1 (fun u48 u49 u50 u51 u52 u53 u54 u55 u56 u57 u58 u59 u60 bu48 bu49 bu50 bu51 bu52 bu53 bu54 bu55 bu56 bu57 bu58 bu59 bu60 A61 => ?_)
            have e62 : u2 = u49 := xk_eqi (q := 1) K46 rfl A40 A61 rfl rfl
            subst e62
            have e63 : u4 = u51 := xk_eqi (q := 18) K46 rfl A40 A61 rfl rfl
            subst e63
            show xw J ov (d + 7) 50 (72, [(0, .ref 115), (1, .int x1), (2, .int x2), (3, .int x3), (4, .int x4)], [.int r44], hh45) _
            refine xi_iload_n (pc' := 73) (x := x3) kc_50_72 rfl rfl ?_
            by_cases c64 : r44.toInt = x3.toInt
            · refine xi_cmf (pc' := 76) kc_50_73 rfl (xc_ne_f (X := r44.toInt) (Y := x3.toInt) rfl rfl (by omega)) ?_
              refine xi_iload_n (pc' := 77) (x := x2) kc_50_76 rfl rfl ?_
              refine xi_iconst (pc' := 78) (v := 1) kc_50_77 rfl rfl ?_
              refine xcps2 (α := Int32) ((x2 : Int32) + 1) (fun v65 ev65 => ?_)
              have rv65 := xc_rng v65
              refine xi_iadd (pc' := 79) (v := v65) kc_50_78 rfl ev65 ?_
              refine xi_goto (pc' := 83) kc_50_79 rfl ?_
              refine xi_istore_n (pc' := 84) (lv' := [(2, .int v65), (0, .ref 115), (1, .int x1), (3, .int x3), (4, .int x4)]) kc_50_83 rfl rfl (xm_lt ml_50 rfl) ?_
              refine xi_iload (pc' := 86) (x := x4) kc_50_84 rfl rfl ?_
              refine xi_static (mj := 49) (as := [.int x4]) (st1 := []) (lv0 := [(0, .int x4)]) kc_50_86 rfl rfl (Nat.le_of_ble_eq_true rfl) rfl rfl (Nat.le_of_ble_eq_true rfl) (hJ _ _ _ _ (by decide)) (xm_le ml_49 rfl) rfl ?_
              refine mt_49_0 hJ hov1 hov2 (d := d + 5) (x0 := x4) K47.1 (fun r66 hh67 K68 => ?_)
              have br66 := xc_rng r66
              have K69 := xk_tr K47 K68 rfl
              refine xp_115 K69.1 (fun u70 u71 u72 u73 u74 u75 u76 u77 u78 u79 u80 u81 u82 bu70 bu71 bu72 bu73 bu74 bu75 bu76 bu77 bu78 bu79 bu80 bu81 bu82 A83 => ?_)
              have e84 : u2 = u71 := xk_eqi (q := 1) K68 rfl A61 A83 rfl rfl
              subst e84
              have e85 : u4 = u73 := xk_eqi (q := 18) K68 rfl A61 A83 rfl rfl
              subst e85
              show xw J ov (d + 7) 50 (89, [(2, .int v65), (0, .ref 115), (1, .int x1), (3, .int x3), (4, .int x4)], [.int r66], hh67) _
              refine xi_iload_n (pc' := 90) (x := x3) kc_50_89 rfl rfl ?_
              by_cases c86 : x3.toInt ≤ r66.toInt
              · refine xi_cmt (pc' := 101) kc_50_90 rfl (xc_ge_t (X := r66.toInt) (Y := x3.toInt) rfl rfl (by omega)) ?_
                refine xi_iload_n (pc' := 102) (x := x3) kc_50_101 rfl rfl ?_
                refine xi_istore_n (pc' := 103) (lv' := [(3, .int x3), (2, .int v65), (0, .ref 115), (1, .int x1), (4, .int x4)]) kc_50_102 rfl rfl (xm_lt ml_50 rfl) ?_
                refine xcps2 (α := Int32) (x4 + 1) (fun v87 ev87 => ?_)
                have zv87 : v87.toInt = (x4.toInt + 1) := by rw [← ev87]; exact (xz_add (X := x4.toInt) (Y := 1) rfl (by decide) (by omega) (by omega)).trans (by omega)
                refine xi_iinc (pc' := 106) (x := x4) (v := v87) (lv' := [(4, .int v87), (3, .int x3), (2, .int v65), (0, .ref 115), (1, .int x1)]) kc_50_103 rfl rfl ev87 rfl (xm_lt ml_50 rfl) ?_
                refine xi_goto (pc' := 33) kc_50_106 rfl ?_
                refine xw_lv (b := [(0, .ref 115), (1, .int x1), (2, .int v65), (3, .int x3), (4, .int v87)]) (lvS_cons (lvS_cons (lvS_cons (lvS_cons (lvS_cons (lvS_nil (show ([4, 3, 2, 0, 1] : List Nat).Nodup by decide)) rfl) rfl) rfl) rfl) rfl) ?_
                exact i0 x1 v65 x3 v87 hh67 (by omega) (by omega) K69 (by omega)
              · refine xi_cmf (pc' := 93) kc_50_90 rfl (xc_ge_f (X := r66.toInt) (Y := x3.toInt) rfl rfl (by omega)) ?_
                refine xi_iload (pc' := 95) (x := x4) kc_50_93 rfl rfl ?_
                refine xi_static (mj := 49) (as := [.int x4]) (st1 := []) (lv0 := [(0, .int x4)]) kc_50_95 rfl rfl (Nat.le_of_ble_eq_true rfl) rfl rfl (Nat.le_of_ble_eq_true rfl) (hJ _ _ _ _ (by decide)) (xm_le ml_49 rfl) rfl ?_
                refine mt_49_0 hJ hov1 hov2 (d := d + 5) (x0 := x4) K69.1 (fun r88 hh89 K90 => ?_)
                have br88 := xc_rng r88
                have K91 := xk_tr K69 K90 rfl
                refine xp_115 K91.1 (fun u92 u93 u94 u95 u96 u97 u98 u99 u100 u101 u102 u103 u104 bu92 bu93 bu94 bu95 bu96 bu97 bu98 bu99 bu100 bu101 bu102 bu103 bu104 A105 => ?_)
                have e106 : u2 = u93 := xk_eqi (q := 1) K90 rfl A83 A105 rfl rfl
                subst e106
                have e107 : u4 = u95 := xk_eqi (q := 18) K90 rfl A83 A105 rfl rfl
                subst e107
                show xw J ov (d + 7) 50 (98, [(2, .int v65), (0, .ref 115), (1, .int x1), (3, .int x3), (4, .int x4)], [.int r88], hh89) _
                refine xi_goto (pc' := 102) kc_50_98 rfl ?_
                refine xi_istore_n (pc' := 103) (lv' := [(3, .int r88), (2, .int v65), (0, .ref 115), (1, .int x1), (4, .int x4)]) kc_50_102 rfl rfl (xm_lt ml_50 rfl) ?_
                refine xcps2 (α := Int32) (x4 + 1) (fun v108 ev108 => ?_)
                have zv108 : v108.toInt = (x4.toInt + 1) := by rw [← ev108]; exact (xz_add (X := x4.toInt) (Y := 1) rfl (by decide) (by omega) (by omega)).trans (by omega)
                refine xi_iinc (pc' := 106) (x := x4) (v := v108) (lv' := [(4, .int v108), (3, .int r88), (2, .int v65), (0, .ref 115), (1, .int x1)]) kc_50_103 rfl rfl ev108 rfl (xm_lt ml_50 rfl) ?_
                refine xi_goto (pc' := 33) kc_50_106 rfl ?_
                refine xw_lv (b := [(0, .ref 115), (1, .int x1), (2, .int v65), (3, .int r88), (4, .int v108)]) (lvS_cons (lvS_cons (lvS_cons (lvS_cons (lvS_cons (lvS_nil (show ([4, 3, 2, 0, 1] : List Nat).Nodup by decide)) rfl) rfl) rfl) rfl) rfl) ?_
                exact i0 x1 v65 r88 v108 hh89 (by omega) (by omega) K91 (by omega)
            · refine xi_cmt (pc' := 82) kc_50_73 rfl (xc_ne_t (X := r44.toInt) (Y := x3.toInt) rfl rfl (by omega)) ?_
              refine xi_iload_n (pc' := 83) (x := x2) kc_50_82 rfl rfl ?_
              refine xi_istore_n (pc' := 84) (lv' := [(2, .int x2), (0, .ref 115), (1, .int x1), (3, .int x3), (4, .int x4)]) kc_50_83 rfl rfl (xm_lt ml_50 rfl) ?_
              refine xi_iload (pc' := 86) (x := x4) kc_50_84 rfl rfl ?_
              refine xi_static (mj := 49) (as := [.int x4]) (st1 := []) (lv0 := [(0, .int x4)]) kc_50_86 rfl rfl (Nat.le_of_ble_eq_true rfl) rfl rfl (Nat.le_of_ble_eq_true rfl) (hJ _ _ _ _ (by decide)) (xm_le ml_49 rfl) rfl ?_
              refine mt_49_0 hJ hov1 hov2 (d := d + 5) (x0 := x4) K47.1 (fun r109 hh110 K111 => ?_)
              have br109 := xc_rng r109
              have K112 := xk_tr K47 K111 rfl
              refine xp_115 K112.1 (fun u113 u114 u115 u116 u117 u118 u119 u120 u121 u122 u123 u124 u125 bu113 bu114 bu115 bu116 bu117 bu118 bu119 bu120 bu121 bu122 bu123 bu124 bu125 A126 => ?_)
              have e127 : u2 = u114 := xk_eqi (q := 1) K111 rfl A61 A126 rfl rfl
              subst e127
              have e128 : u4 = u116 := xk_eqi (q := 18) K111 rfl A61 A126 rfl rfl
              subst e128
              show xw J ov (d + 7) 50 (89, [(2, .int x2), (0, .ref 115), (1, .int x1), (3, .int x3), (4, .int x4)], [.int r109], hh110) _
              refine xi_iload_n (pc' := 90) (x := x3) kc_50_89 rfl rfl ?_
              by_cases c129 : x3.toInt ≤ r109.toInt
              · refine xi_cmt (pc' := 101) kc_50_90 rfl (xc_ge_t (X := r109.toInt) (Y := x3.toInt) rfl rfl (by omega)) ?_
                refine xi_iload_n (pc' := 102) (x := x3) kc_50_101 rfl rfl ?_
                refine xi_istore_n (pc' := 103) (lv' := [(3, .int x3), (2, .int x2), (0, .ref 115), (1, .int x1), (4, .int x4)]) kc_50_102 rfl rfl (xm_lt ml_50 rfl) ?_
                refine xcps2 (α := Int32) (x4 + 1) (fun v130 ev130 => ?_)
                have zv130 : v130.toInt = (x4.toInt + 1) := by rw [← ev130]; exact (xz_add (X := x4.toInt) (Y := 1) rfl (by decide) (by omega) (by omega)).trans (by omega)
                refine xi_iinc (pc' := 106) (x := x4) (v := v130) (lv' := [(4, .int v130), (3, .int x3), (2, .int x2), (0, .ref 115), (1, .int x1)]) kc_50_103 rfl rfl ev130 rfl (xm_lt ml_50 rfl) ?_
                refine xi_goto (pc' := 33) kc_50_106 rfl ?_
                refine xw_lv (b := [(0, .ref 115), (1, .int x1), (2, .int x2), (3, .int x3), (4, .int v130)]) (lvS_cons (lvS_cons (lvS_cons (lvS_cons (lvS_cons (lvS_nil (show ([4, 3, 2, 0, 1] : List Nat).Nodup by decide)) rfl) rfl) rfl) rfl) rfl) ?_
                exact i0 x1 x2 x3 v130 hh110 (by omega) (by omega) K112 (by omega)
              · refine xi_cmf (pc' := 93) kc_50_90 rfl (xc_ge_f (X := r109.toInt) (Y := x3.toInt) rfl rfl (by omega)) ?_
                refine xi_iload (pc' := 95) (x := x4) kc_50_93 rfl rfl ?_
                refine xi_static (mj := 49) (as := [.int x4]) (st1 := []) (lv0 := [(0, .int x4)]) kc_50_95 rfl rfl (Nat.le_of_ble_eq_true rfl) rfl rfl (Nat.le_of_ble_eq_true rfl) (hJ _ _ _ _ (by decide)) (xm_le ml_49 rfl) rfl ?_
                refine mt_49_0 hJ hov1 hov2 (d := d + 5) (x0 := x4) K112.1 (fun r131 hh132 K133 => ?_)
                have br131 := xc_rng r131
                have K134 := xk_tr K112 K133 rfl
                refine xp_115 K134.1 (fun u135 u136 u137 u138 u139 u140 u141 u142 u143 u144 u145 u146 u147 bu135 bu136 bu137 bu138 bu139 bu140 bu141 bu142 bu143 bu144 bu145 bu146 bu147 A148 => ?_)
                have e149 : u2 = u136 := xk_eqi (q := 1) K133 rfl A126 A148 rfl rfl
                subst e149
                have e150 : u4 = u138 := xk_eqi (q := 18) K133 rfl A126 A148 rfl rfl
                subst e150
                show xw J ov (d + 7) 50 (98, [(2, .int x2), (0, .ref 115), (1, .int x1), (3, .int x3), (4, .int x4)], [.int r131], hh132) _
                refine xi_goto (pc' := 102) kc_50_98 rfl ?_
                refine xi_istore_n (pc' := 103) (lv' := [(3, .int r131), (2, .int x2), (0, .ref 115), (1, .int x1), (4, .int x4)]) kc_50_102 rfl rfl (xm_lt ml_50 rfl) ?_
                refine xcps2 (α := Int32) (x4 + 1) (fun v151 ev151 => ?_)
                have zv151 : v151.toInt = (x4.toInt + 1) := by rw [← ev151]; exact (xz_add (X := x4.toInt) (Y := 1) rfl (by decide) (by omega) (by omega)).trans (by omega)
                refine xi_iinc (pc' := 106) (x := x4) (v := v151) (lv' := [(4, .int v151), (3, .int r131), (2, .int x2), (0, .ref 115), (1, .int x1)]) kc_50_103 rfl rfl ev151 rfl (xm_lt ml_50 rfl) ?_
                refine xi_goto (pc' := 33) kc_50_106 rfl ?_
                refine xw_lv (b := [(0, .ref 115), (1, .int x1), (2, .int x2), (3, .int r131), (4, .int v151)]) (lvS_cons (lvS_cons (lvS_cons (lvS_cons (lvS_cons (lvS_nil (show ([4, 3, 2, 0, 1] : List Nat).Nodup by decide)) rfl) rfl) rfl) rfl) rfl) ?_
                exact i0 x1 x2 r131 v151 hh132 (by omega) (by omega) K134 (by omega)
          · refine xi_cmf (pc' := 63) kc_50_60 rfl (xc_ge_f (X := r23.toInt) (Y := x3.toInt) rfl rfl (by omega)) ?_
            refine xi_iconst (pc' := 64) (v := 1) kc_50_63 rfl rfl ?_
            refine xi_goto (pc' := 83) kc_50_64 rfl ?_
            refine xi_istore_n (pc' := 84) (lv' := [(2, .int 1), (0, .ref 115), (1, .int x1), (3, .int x3), (4, .int x4)]) kc_50_83 rfl rfl (xm_lt ml_50 rfl) ?_
            refine xi_iload (pc' := 86) (x := x4) kc_50_84 rfl rfl ?_
            refine xi_static (mj := 49) (as := [.int x4]) (st1 := []) (lv0 := [(0, .int x4)]) kc_50_86 rfl rfl (Nat.le_of_ble_eq_true rfl) rfl rfl (Nat.le_of_ble_eq_true rfl) (hJ _ _ _ _ (by decide)) (xm_le ml_49 rfl) rfl ?_
            refine mt_49_0 hJ hov1 hov2 (d := d + 5) (x0 := x4) K26.1 (fun r152 hh153 K154 => ?_)
            have br152 := xc_rng r152
            have K155 := xk_tr K26 K154 rfl
            refine xp_115 K155.1 (fun u156 u157 u158 u159 u160 u161 u162 u163 u164 u165 u166 u167 u168 bu156 bu157 bu158 bu159 bu160 bu161 bu162 bu163 bu164 bu165 bu166 bu167 bu168 A169 => ?_)
            have e170 : u2 = u157 := xk_eqi (q := 1) K154 rfl A40 A169 rfl rfl
            subst e170
            have e171 : u4 = u159 := xk_eqi (q := 18) K154 rfl A40 A169 rfl rfl
            subst e171
            show xw J ov (d + 7) 50 (89, [(2, .int 1), (0, .ref 115), (1, .int x1), (3, .int x3), (4, .int x4)], [.int r152], hh153) _
            refine xi_iload_n (pc' := 90) (x := x3) kc_50_89 rfl rfl ?_
            by_cases c172 : x3.toInt ≤ r152.toInt
            · refine xi_cmt (pc' := 101) kc_50_90 rfl (xc_ge_t (X := r152.toInt) (Y := x3.toInt) rfl rfl (by omega)) ?_
              refine xi_iload_n (pc' := 102) (x := x3) kc_50_101 rfl rfl ?_
              refine xi_istore_n (pc' := 103) (lv' := [(3, .int x3), (2, .int 1), (0, .ref 115), (1, .int x1), (4, .int x4)]) kc_50_102 rfl rfl (xm_lt ml_50 rfl) ?_
              refine xcps2 (α := Int32) (x4 + 1) (fun v173 ev173 => ?_)
              have zv173 : v173.toInt = (x4.toInt + 1) := by rw [← ev173]; exact (xz_add (X := x4.toInt) (Y := 1) rfl (by decide) (by omega) (by omega)).trans (by omega)
              refine xi_iinc (pc' := 106) (x := x4) (v := v173) (lv' := [(4, .int v173), (3, .int x3), (2, .int 1), (0, .ref 115), (1, .int x1)]) kc_50_103 rfl rfl ev173 rfl (xm_lt ml_50 rfl) ?_
              refine xi_goto (pc' := 33) kc_50_106 rfl ?_
              have zc1 : (1 : Int32).toInt = 1 := by decide
              refine xw_lv (b := [(0, .ref 115), (1, .int x1), (2, .int 1), (3, .int x3), (4, .int v173)]) (lvS_cons (lvS_cons (lvS_cons (lvS_cons (lvS_cons (lvS_nil (show ([4, 3, 2, 0, 1] : List Nat).Nodup by decide)) rfl) rfl) rfl) rfl) rfl) ?_
              exact i0 x1 1 x3 v173 hh153 (by omega) (by omega) K155 (by omega)
            · refine xi_cmf (pc' := 93) kc_50_90 rfl (xc_ge_f (X := r152.toInt) (Y := x3.toInt) rfl rfl (by omega)) ?_
              refine xi_iload (pc' := 95) (x := x4) kc_50_93 rfl rfl ?_
              refine xi_static (mj := 49) (as := [.int x4]) (st1 := []) (lv0 := [(0, .int x4)]) kc_50_95 rfl rfl (Nat.le_of_ble_eq_true rfl) rfl rfl (Nat.le_of_ble_eq_true rfl) (hJ _ _ _ _ (by decide)) (xm_le ml_49 rfl) rfl ?_
              refine mt_49_0 hJ hov1 hov2 (d := d + 5) (x0 := x4) K155.1 (fun r174 hh175 K176 => ?_)
              have br174 := xc_rng r174
              have K177 := xk_tr K155 K176 rfl
              refine xp_115 K177.1 (fun u178 u179 u180 u181 u182 u183 u184 u185 u186 u187 u188 u189 u190 bu178 bu179 bu180 bu181 bu182 bu183 bu184 bu185 bu186 bu187 bu188 bu189 bu190 A191 => ?_)
              have e192 : u2 = u179 := xk_eqi (q := 1) K176 rfl A169 A191 rfl rfl
              subst e192
              have e193 : u4 = u181 := xk_eqi (q := 18) K176 rfl A169 A191 rfl rfl
              subst e193
              show xw J ov (d + 7) 50 (98, [(2, .int 1), (0, .ref 115), (1, .int x1), (3, .int x3), (4, .int x4)], [.int r174], hh175) _
              refine xi_goto (pc' := 102) kc_50_98 rfl ?_
              refine xi_istore_n (pc' := 103) (lv' := [(3, .int r174), (2, .int 1), (0, .ref 115), (1, .int x1), (4, .int x4)]) kc_50_102 rfl rfl (xm_lt ml_50 rfl) ?_
              refine xcps2 (α := Int32) (x4 + 1) (fun v194 ev194 => ?_)
              have zv194 : v194.toInt = (x4.toInt + 1) := by rw [← ev194]; exact (xz_add (X := x4.toInt) (Y := 1) rfl (by decide) (by omega) (by omega)).trans (by omega)
              refine xi_iinc (pc' := 106) (x := x4) (v := v194) (lv' := [(4, .int v194), (3, .int r174), (2, .int 1), (0, .ref 115), (1, .int x1)]) kc_50_103 rfl rfl ev194 rfl (xm_lt ml_50 rfl) ?_
              refine xi_goto (pc' := 33) kc_50_106 rfl ?_
              have zc1 : (1 : Int32).toInt = 1 := by decide
              refine xw_lv (b := [(0, .ref 115), (1, .int x1), (2, .int 1), (3, .int r174), (4, .int v194)]) (lvS_cons (lvS_cons (lvS_cons (lvS_cons (lvS_cons (lvS_nil (show ([4, 3, 2, 0, 1] : List Nat).Nodup by decide)) rfl) rfl) rfl) rfl) rfl) ?_
              exact i0 x1 1 r174 v194 hh175 (by omega) (by omega) K177 (by omega)
        · have zv20c22 : v20 ≠ 0 := xj_lc ev21 (by omega)
          refine xi_ift (pc' := 103) kc_50_51 rfl (xc_ne_t (X := v21.toInt) (Y := 0) rfl (by decide) (by omega)) ?_
          refine xcps2 (α := Int32) (x4 + 1) (fun v195 ev195 => ?_)
          have zv195 : v195.toInt = (x4.toInt + 1) := by rw [← ev195]; exact (xz_add (X := x4.toInt) (Y := 1) rfl (by decide) (by omega) (by omega)).trans (by omega)
          refine xi_iinc (pc' := 106) (x := x4) (v := v195) (lv' := [(4, .int v195), (0, .ref 115), (1, .int x1), (2, .int x2), (3, .int x3)]) kc_50_103 rfl rfl ev195 rfl (xm_lt ml_50 rfl) ?_
          refine xi_goto (pc' := 33) kc_50_106 rfl ?_
          refine xw_lv (b := [(0, .ref 115), (1, .int x1), (2, .int x2), (3, .int x3), (4, .int v195)]) (lvS_cons (lvS_cons (lvS_cons (lvS_cons (lvS_cons (lvS_nil (show ([4, 0, 1, 2, 3] : List Nat).Nodup by decide)) rfl) rfl) rfl) rfl) rfl) ?_
          exact i0 x1 x2 x3 v195 h (by omega) (by omega) K (by omega)
    · refine xi_cmf (pc' := 10) kc_42_7 rfl (xc_ge_f (X := u5.toInt) (Y := 6) rfl (by decide) (by omega)) ?_
      refine xi_aload_n (pc' := 11) (x := 115) kc_42_10 rfl rfl ?_
      refine xi_getfield (pc' := 14) (v := .int u5) kc_42_11 rfl rfl rfl A14 rfl ?_
      refine xi_goto (pc' := 19) kc_42_14 rfl ?_
      refine xcps2 (α := Int32) ((1 : Int32) <<< (u5 &&& 31)) (fun v196 ev196 => ?_)
      have rv196 := xc_rng v196
      have bv196 : 1 ≤ v196.toInt ∧ v196.toInt ≤ 64 := by rw [← ev196]; exact xj_shl6 (by omega) (by omega)
      refine xi_ishl (pc' := 20) (v := v196) kc_42_19 rfl ev196 ?_
      refine xi_ireturn kc_42_20 mr_42 rfl ?_
      show xw J ov (d + 7) 50 (39, [(0, .ref 115), (1, .int x1), (2, .int x2), (3, .int x3), (4, .int x4)], [.int v196, .int x4], h) _
      by_cases c197 : v196.toInt ≤ x4.toInt
      · refine xi_cmt (pc' := 109) kc_50_39 rfl (xc_ge_t (X := x4.toInt) (Y := v196.toInt) rfl rfl (by omega)) ?_
        refine xi_iload_n (pc' := 110) (x := x2) kc_50_109 rfl rfl ?_
        by_cases c198 : x2.toInt = 0
        · refine xi_iff (pc' := 113) kc_50_110 rfl (xc_ne_f (X := x2.toInt) (Y := 0) rfl (by decide) (by omega)) ?_
          refine xi_bipush (pc' := 115) (v := (-9)) kc_50_113 rfl rfl ?_
          refine xi_goto (pc' := 127) kc_50_115 rfl ?_
          refine xi_ireturn kc_50_127 mr_50 rfl ?_
          have zcm9 : ((-9) : Int32).toInt = (-9) := by decide
          exact kk (-9) h K
        · refine xi_ift (pc' := 118) kc_50_110 rfl (xc_ne_t (X := x2.toInt) (Y := 0) rfl (by decide) (by omega)) ?_
          refine xi_iload_n (pc' := 119) (x := x1) kc_50_118 rfl rfl ?_
          by_cases c199 : x1.toInt = 0
          · refine xi_iff (pc' := 122) kc_50_119 rfl (xc_ne_f (X := x1.toInt) (Y := 0) rfl (by decide) (by omega)) ?_
            refine xi_iload_n (pc' := 123) (x := x2) kc_50_122 rfl rfl ?_
            refine xi_goto (pc' := 127) kc_50_123 rfl ?_
            refine xi_ireturn kc_50_127 mr_50 rfl ?_
            exact kk x2 h K
          · refine xi_ift (pc' := 126) kc_50_119 rfl (xc_ne_t (X := x1.toInt) (Y := 0) rfl (by decide) (by omega)) ?_
            refine xi_iload_n (pc' := 127) (x := x3) kc_50_126 rfl rfl ?_
            refine xi_ireturn kc_50_127 mr_50 rfl ?_
            exact kk x3 h K
      · refine xi_cmf (pc' := 42) kc_50_39 rfl (xc_ge_f (X := x4.toInt) (Y := v196.toInt) rfl rfl (by omega)) ?_
        refine xi_aload_n (pc' := 43) (x := 115) kc_50_42 rfl rfl ?_
        refine xi_getfield (pc' := 46) (v := .ref 149) kc_50_43 rfl rfl rfl A14 rfl ?_
        refine xi_iload (pc' := 48) (x := x4) kc_50_46 rfl rfl ?_
        obtain ⟨y200, A200, hy200⟩ := xk_larr K.1 xD_149
        refine xcps2 (α := Int64) (y200.getD (Int32.toNatClampNeg x4) 0) (fun v201 ev201 => ?_)
        refine xi_laload (pc' := 49) (v := v201) kc_50_48 rfl A200 rfl (xi_in (by omega) (by rw [hy200]; omega)) ev201 ?_
        refine xi_lconst (pc' := 50) (v := 0) kc_50_49 rfl rfl ?_
        refine xcps2 (α := Int32) (lg_cmp v201 0) (fun v202 ev202 => ?_)
        have rv202 := xc_rng v202
        refine xi_lcmp (pc' := 51) (v := v202) kc_50_50 rfl ev202 ?_
        by_cases c203 : v202.toInt = 0
        · refine xi_iff (pc' := 54) kc_50_51 rfl (xc_ne_f (X := v202.toInt) (Y := 0) rfl (by decide) (by omega)) ?_
          refine xi_iload (pc' := 56) (x := x4) kc_50_54 rfl rfl ?_
          refine xi_static (mj := 49) (as := [.int x4]) (st1 := []) (lv0 := [(0, .int x4)]) kc_50_56 rfl rfl (Nat.le_of_ble_eq_true rfl) rfl rfl (Nat.le_of_ble_eq_true rfl) (hJ _ _ _ _ (by decide)) (xm_le ml_49 rfl) rfl ?_
          refine mt_49_0 hJ hov1 hov2 (d := d + 5) (x0 := x4) K.1 (fun r204 hh205 K206 => ?_)
          have br204 := xc_rng r204
          have K207 := xk_tr K K206 rfl
          refine xp_115 K207.1 (fun u208 u209 u210 u211 u212 u213 u214 u215 u216 u217 u218 u219 u220 bu208 bu209 bu210 bu211 bu212 bu213 bu214 bu215 bu216 bu217 bu218 bu219 bu220 A221 => ?_)
          have e222 : u2 = u209 := xk_eqi (q := 1) K206 rfl A14 A221 rfl rfl
          subst e222
          have e223 : u4 = u211 := xk_eqi (q := 18) K206 rfl A14 A221 rfl rfl
          subst e223
          show xw J ov (d + 7) 50 (59, [(0, .ref 115), (1, .int x1), (2, .int x2), (3, .int x3), (4, .int x4)], [.int r204], hh205) _
          refine xi_iload_n (pc' := 60) (x := x3) kc_50_59 rfl rfl ?_
          by_cases c224 : x3.toInt ≤ r204.toInt
          · refine xi_cmt (pc' := 67) kc_50_60 rfl (xc_ge_t (X := r204.toInt) (Y := x3.toInt) rfl rfl (by omega)) ?_
            refine xi_iload (pc' := 69) (x := x4) kc_50_67 rfl rfl ?_
            refine xi_static (mj := 49) (as := [.int x4]) (st1 := []) (lv0 := [(0, .int x4)]) kc_50_69 rfl rfl (Nat.le_of_ble_eq_true rfl) rfl rfl (Nat.le_of_ble_eq_true rfl) (hJ _ _ _ _ (by decide)) (xm_le ml_49 rfl) rfl ?_
            refine mt_49_0 hJ hov1 hov2 (d := d + 5) (x0 := x4) K207.1 (fun r225 hh226 K227 => ?_)
            have br225 := xc_rng r225
            have K228 := xk_tr K207 K227 rfl
            refine xp_115 K228.1 (fun u229 u230 u231 u232 u233 u234 u235 u236 u237 u238 u239 u240 u241 bu229 bu230 bu231 bu232 bu233 bu234 bu235 bu236 bu237 bu238 bu239 bu240 bu241 A242 => ?_)
            have e243 : u2 = u230 := xk_eqi (q := 1) K227 rfl A221 A242 rfl rfl
            subst e243
            have e244 : u4 = u232 := xk_eqi (q := 18) K227 rfl A221 A242 rfl rfl
            subst e244
            show xw J ov (d + 7) 50 (72, [(0, .ref 115), (1, .int x1), (2, .int x2), (3, .int x3), (4, .int x4)], [.int r225], hh226) _
            refine xi_iload_n (pc' := 73) (x := x3) kc_50_72 rfl rfl ?_
            by_cases c245 : r225.toInt = x3.toInt
            · refine xi_cmf (pc' := 76) kc_50_73 rfl (xc_ne_f (X := r225.toInt) (Y := x3.toInt) rfl rfl (by omega)) ?_
              refine xi_iload_n (pc' := 77) (x := x2) kc_50_76 rfl rfl ?_
              refine xi_iconst (pc' := 78) (v := 1) kc_50_77 rfl rfl ?_
              refine xcps2 (α := Int32) ((x2 : Int32) + 1) (fun v246 ev246 => ?_)
              have rv246 := xc_rng v246
              refine xi_iadd (pc' := 79) (v := v246) kc_50_78 rfl ev246 ?_
              refine xi_goto (pc' := 83) kc_50_79 rfl ?_
              refine xi_istore_n (pc' := 84) (lv' := [(2, .int v246), (0, .ref 115), (1, .int x1), (3, .int x3), (4, .int x4)]) kc_50_83 rfl rfl (xm_lt ml_50 rfl) ?_
              refine xi_iload (pc' := 86) (x := x4) kc_50_84 rfl rfl ?_
              refine xi_static (mj := 49) (as := [.int x4]) (st1 := []) (lv0 := [(0, .int x4)]) kc_50_86 rfl rfl (Nat.le_of_ble_eq_true rfl) rfl rfl (Nat.le_of_ble_eq_true rfl) (hJ _ _ _ _ (by decide)) (xm_le ml_49 rfl) rfl ?_
              refine mt_49_0 hJ hov1 hov2 (d := d + 5) (x0 := x4) K228.1 (fun r247 hh248 K249 => ?_)
              have br247 := xc_rng r247
              have K250 := xk_tr K228 K249 rfl
              refine xp_115 K250.1 (fun u251 u252 u253 u254 u255 u256 u257 u258 u259 u260 u261 u262 u263 bu251 bu252 bu253 bu254 bu255 bu256 bu257 bu258 bu259 bu260 bu261 bu262 bu263 A264 => ?_)
              have e265 : u2 = u252 := xk_eqi (q := 1) K249 rfl A242 A264 rfl rfl
              subst e265
              have e266 : u4 = u254 := xk_eqi (q := 18) K249 rfl A242 A264 rfl rfl
              subst e266
              show xw J ov (d + 7) 50 (89, [(2, .int v246), (0, .ref 115), (1, .int x1), (3, .int x3), (4, .int x4)], [.int r247], hh248) _
              refine xi_iload_n (pc' := 90) (x := x3) kc_50_89 rfl rfl ?_
              by_cases c267 : x3.toInt ≤ r247.toInt
              · refine xi_cmt (pc' := 101) kc_50_90 rfl (xc_ge_t (X := r247.toInt) (Y := x3.toInt) rfl rfl (by omega)) ?_
                refine xi_iload_n (pc' := 102) (x := x3) kc_50_101 rfl rfl ?_
                refine xi_istore_n (pc' := 103) (lv' := [(3, .int x3), (2, .int v246), (0, .ref 115), (1, .int x1), (4, .int x4)]) kc_50_102 rfl rfl (xm_lt ml_50 rfl) ?_
                refine xcps2 (α := Int32) (x4 + 1) (fun v268 ev268 => ?_)
                have zv268 : v268.toInt = (x4.toInt + 1) := by rw [← ev268]; exact (xz_add (X := x4.toInt) (Y := 1) rfl (by decide) (by omega) (by omega)).trans (by omega)
                refine xi_iinc (pc' := 106) (x := x4) (v := v268) (lv' := [(4, .int v268), (3, .int x3), (2, .int v246), (0, .ref 115), (1, .int x1)]) kc_50_103 rfl rfl ev268 rfl (xm_lt ml_50 rfl) ?_
                refine xi_goto (pc' := 33) kc_50_106 rfl ?_
                refine xw_lv (b := [(0, .ref 115), (1, .int x1), (2, .int v246), (3, .int x3), (4, .int v268)]) (lvS_cons (lvS_cons (lvS_cons (lvS_cons (lvS_cons (lvS_nil (show ([4, 3, 2, 0, 1] : List Nat).Nodup by decide)) rfl) rfl) rfl) rfl) rfl) ?_
                exact i0 x1 v246 x3 v268 hh248 (by omega) (by omega) K250 (by omega)
              · refine xi_cmf (pc' := 93) kc_50_90 rfl (xc_ge_f (X := r247.toInt) (Y := x3.toInt) rfl rfl (by omega)) ?_
                refine xi_iload (pc' := 95) (x := x4) kc_50_93 rfl rfl ?_
                refine xi_static (mj := 49) (as := [.int x4]) (st1 := []) (lv0 := [(0, .int x4)]) kc_50_95 rfl rfl (Nat.le_of_ble_eq_true rfl) rfl rfl (Nat.le_of_ble_eq_true rfl) (hJ _ _ _ _ (by decide)) (xm_le ml_49 rfl) rfl ?_
                refine mt_49_0 hJ hov1 hov2 (d := d + 5) (x0 := x4) K250.1 (fun r269 hh270 K271 => ?_)
                have br269 := xc_rng r269
                have K272 := xk_tr K250 K271 rfl
                refine xp_115 K272.1 (fun u273 u274 u275 u276 u277 u278 u279 u280 u281 u282 u283 u284 u285 bu273 bu274 bu275 bu276 bu277 bu278 bu279 bu280 bu281 bu282 bu283 bu284 bu285 A286 => ?_)
                have e287 : u2 = u274 := xk_eqi (q := 1) K271 rfl A264 A286 rfl rfl
                subst e287
                have e288 : u4 = u276 := xk_eqi (q := 18) K271 rfl A264 A286 rfl rfl
                subst e288
                show xw J ov (d + 7) 50 (98, [(2, .int v246), (0, .ref 115), (1, .int x1), (3, .int x3), (4, .int x4)], [.int r269], hh270) _
                refine xi_goto (pc' := 102) kc_50_98 rfl ?_
                refine xi_istore_n (pc' := 103) (lv' := [(3, .int r269), (2, .int v246), (0, .ref 115), (1, .int x1), (4, .int x4)]) kc_50_102 rfl rfl (xm_lt ml_50 rfl) ?_
                refine xcps2 (α := Int32) (x4 + 1) (fun v289 ev289 => ?_)
                have zv289 : v289.toInt = (x4.toInt + 1) := by rw [← ev289]; exact (xz_add (X := x4.toInt) (Y := 1) rfl (by decide) (by omega) (by omega)).trans (by omega)
                refine xi_iinc (pc' := 106) (x := x4) (v := v289) (lv' := [(4, .int v289), (3, .int r269), (2, .int v246), (0, .ref 115), (1, .int x1)]) kc_50_103 rfl rfl ev289 rfl (xm_lt ml_50 rfl) ?_
                refine xi_goto (pc' := 33) kc_50_106 rfl ?_
                refine xw_lv (b := [(0, .ref 115), (1, .int x1), (2, .int v246), (3, .int r269), (4, .int v289)]) (lvS_cons (lvS_cons (lvS_cons (lvS_cons (lvS_cons (lvS_nil (show ([4, 3, 2, 0, 1] : List Nat).Nodup by decide)) rfl) rfl) rfl) rfl) rfl) ?_
                exact i0 x1 v246 r269 v289 hh270 (by omega) (by omega) K272 (by omega)
            · refine xi_cmt (pc' := 82) kc_50_73 rfl (xc_ne_t (X := r225.toInt) (Y := x3.toInt) rfl rfl (by omega)) ?_
              refine xi_iload_n (pc' := 83) (x := x2) kc_50_82 rfl rfl ?_
              refine xi_istore_n (pc' := 84) (lv' := [(2, .int x2), (0, .ref 115), (1, .int x1), (3, .int x3), (4, .int x4)]) kc_50_83 rfl rfl (xm_lt ml_50 rfl) ?_
              refine xi_iload (pc' := 86) (x := x4) kc_50_84 rfl rfl ?_
              refine xi_static (mj := 49) (as := [.int x4]) (st1 := []) (lv0 := [(0, .int x4)]) kc_50_86 rfl rfl (Nat.le_of_ble_eq_true rfl) rfl rfl (Nat.le_of_ble_eq_true rfl) (hJ _ _ _ _ (by decide)) (xm_le ml_49 rfl) rfl ?_
              refine mt_49_0 hJ hov1 hov2 (d := d + 5) (x0 := x4) K228.1 (fun r290 hh291 K292 => ?_)
              have br290 := xc_rng r290
              have K293 := xk_tr K228 K292 rfl
              refine xp_115 K293.1 (fun u294 u295 u296 u297 u298 u299 u300 u301 u302 u303 u304 u305 u306 bu294 bu295 bu296 bu297 bu298 bu299 bu300 bu301 bu302 bu303 bu304 bu305 bu306 A307 => ?_)
              have e308 : u2 = u295 := xk_eqi (q := 1) K292 rfl A242 A307 rfl rfl
              subst e308
              have e309 : u4 = u297 := xk_eqi (q := 18) K292 rfl A242 A307 rfl rfl
              subst e309
              show xw J ov (d + 7) 50 (89, [(2, .int x2), (0, .ref 115), (1, .int x1), (3, .int x3), (4, .int x4)], [.int r290], hh291) _
              refine xi_iload_n (pc' := 90) (x := x3) kc_50_89 rfl rfl ?_
              by_cases c310 : x3.toInt ≤ r290.toInt
              · refine xi_cmt (pc' := 101) kc_50_90 rfl (xc_ge_t (X := r290.toInt) (Y := x3.toInt) rfl rfl (by omega)) ?_
                refine xi_iload_n (pc' := 102) (x := x3) kc_50_101 rfl rfl ?_
                refine xi_istore_n (pc' := 103) (lv' := [(3, .int x3), (2, .int x2), (0, .ref 115), (1, .int x1), (4, .int x4)]) kc_50_102 rfl rfl (xm_lt ml_50 rfl) ?_
                refine xcps2 (α := Int32) (x4 + 1) (fun v311 ev311 => ?_)
                have zv311 : v311.toInt = (x4.toInt + 1) := by rw [← ev311]; exact (xz_add (X := x4.toInt) (Y := 1) rfl (by decide) (by omega) (by omega)).trans (by omega)
                refine xi_iinc (pc' := 106) (x := x4) (v := v311) (lv' := [(4, .int v311), (3, .int x3), (2, .int x2), (0, .ref 115), (1, .int x1)]) kc_50_103 rfl rfl ev311 rfl (xm_lt ml_50 rfl) ?_
                refine xi_goto (pc' := 33) kc_50_106 rfl ?_
                refine xw_lv (b := [(0, .ref 115), (1, .int x1), (2, .int x2), (3, .int x3), (4, .int v311)]) (lvS_cons (lvS_cons (lvS_cons (lvS_cons (lvS_cons (lvS_nil (show ([4, 3, 2, 0, 1] : List Nat).Nodup by decide)) rfl) rfl) rfl) rfl) rfl) ?_
                exact i0 x1 x2 x3 v311 hh291 (by omega) (by omega) K293 (by omega)
              · refine xi_cmf (pc' := 93) kc_50_90 rfl (xc_ge_f (X := r290.toInt) (Y := x3.toInt) rfl rfl (by omega)) ?_
                refine xi_iload (pc' := 95) (x := x4) kc_50_93 rfl rfl ?_
                refine xi_static (mj := 49) (as := [.int x4]) (st1 := []) (lv0 := [(0, .int x4)]) kc_50_95 rfl rfl (Nat.le_of_ble_eq_true rfl) rfl rfl (Nat.le_of_ble_eq_true rfl) (hJ _ _ _ _ (by decide)) (xm_le ml_49 rfl) rfl ?_
                refine mt_49_0 hJ hov1 hov2 (d := d + 5) (x0 := x4) K293.1 (fun r312 hh313 K314 => ?_)
                have br312 := xc_rng r312
                have K315 := xk_tr K293 K314 rfl
                refine xp_115 K315.1 (fun u316 u317 u318 u319 u320 u321 u322 u323 u324 u325 u326 u327 u328 bu316 bu317 bu318 bu319 bu320 bu321 bu322 bu323 bu324 bu325 bu326 bu327 bu328 A329 => ?_)
                have e330 : u2 = u317 := xk_eqi (q := 1) K314 rfl A307 A329 rfl rfl
                subst e330
                have e331 : u4 = u319 := xk_eqi (q := 18) K314 rfl A307 A329 rfl rfl
                subst e331
                show xw J ov (d + 7) 50 (98, [(2, .int x2), (0, .ref 115), (1, .int x1), (3, .int x3), (4, .int x4)], [.int r312], hh313) _
                refine xi_goto (pc' := 102) kc_50_98 rfl ?_
                refine xi_istore_n (pc' := 103) (lv' := [(3, .int r312), (2, .int x2), (0, .ref 115), (1, .int x1), (4, .int x4)]) kc_50_102 rfl rfl (xm_lt ml_50 rfl) ?_
                refine xcps2 (α := Int32) (x4 + 1) (fun v332 ev332 => ?_)
                have zv332 : v332.toInt = (x4.toInt + 1) := by rw [← ev332]; exact (xz_add (X := x4.toInt) (Y := 1) rfl (by decide) (by omega) (by omega)).trans (by omega)
                refine xi_iinc (pc' := 106) (x := x4) (v := v332) (lv' := [(4, .int v332), (3, .int r312), (2, .int x2), (0, .ref 115), (1, .int x1)]) kc_50_103 rfl rfl ev332 rfl (xm_lt ml_50 rfl) ?_
                refine xi_goto (pc' := 33) kc_50_106 rfl ?_
                refine xw_lv (b := [(0, .ref 115), (1, .int x1), (2, .int x2), (3, .int r312), (4, .int v332)]) (lvS_cons (lvS_cons (lvS_cons (lvS_cons (lvS_cons (lvS_nil (show ([4, 3, 2, 0, 1] : List Nat).Nodup by decide)) rfl) rfl) rfl) rfl) rfl) ?_
                exact i0 x1 x2 r312 v332 hh313 (by omega) (by omega) K315 (by omega)
          · refine xi_cmf (pc' := 63) kc_50_60 rfl (xc_ge_f (X := r204.toInt) (Y := x3.toInt) rfl rfl (by omega)) ?_
            refine xi_iconst (pc' := 64) (v := 1) kc_50_63 rfl rfl ?_
            refine xi_goto (pc' := 83) kc_50_64 rfl ?_
            refine xi_istore_n (pc' := 84) (lv' := [(2, .int 1), (0, .ref 115), (1, .int x1), (3, .int x3), (4, .int x4)]) kc_50_83 rfl rfl (xm_lt ml_50 rfl) ?_
            refine xi_iload (pc' := 86) (x := x4) kc_50_84 rfl rfl ?_
            refine xi_static (mj := 49) (as := [.int x4]) (st1 := []) (lv0 := [(0, .int x4)]) kc_50_86 rfl rfl (Nat.le_of_ble_eq_true rfl) rfl rfl (Nat.le_of_ble_eq_true rfl) (hJ _ _ _ _ (by decide)) (xm_le ml_49 rfl) rfl ?_
            refine mt_49_0 hJ hov1 hov2 (d := d + 5) (x0 := x4) K207.1 (fun r333 hh334 K335 => ?_)
            have br333 := xc_rng r333
            have K336 := xk_tr K207 K335 rfl
            refine xp_115 K336.1 (fun u337 u338 u339 u340 u341 u342 u343 u344 u345 u346 u347 u348 u349 bu337 bu338 bu339 bu340 bu341 bu342 bu343 bu344 bu345 bu346 bu347 bu348 bu349 A350 => ?_)
            have e351 : u2 = u338 := xk_eqi (q := 1) K335 rfl A221 A350 rfl rfl
            subst e351
            have e352 : u4 = u340 := xk_eqi (q := 18) K335 rfl A221 A350 rfl rfl
            subst e352
            show xw J ov (d + 7) 50 (89, [(2, .int 1), (0, .ref 115), (1, .int x1), (3, .int x3), (4, .int x4)], [.int r333], hh334) _
            refine xi_iload_n (pc' := 90) (x := x3) kc_50_89 rfl rfl ?_
            by_cases c353 : x3.toInt ≤ r333.toInt
            · refine xi_cmt (pc' := 101) kc_50_90 rfl (xc_ge_t (X := r333.toInt) (Y := x3.toInt) rfl rfl (by omega)) ?_
              refine xi_iload_n (pc' := 102) (x := x3) kc_50_101 rfl rfl ?_
              refine xi_istore_n (pc' := 103) (lv' := [(3, .int x3), (2, .int 1), (0, .ref 115), (1, .int x1), (4, .int x4)]) kc_50_102 rfl rfl (xm_lt ml_50 rfl) ?_
              refine xcps2 (α := Int32) (x4 + 1) (fun v354 ev354 => ?_)
              have zv354 : v354.toInt = (x4.toInt + 1) := by rw [← ev354]; exact (xz_add (X := x4.toInt) (Y := 1) rfl (by decide) (by omega) (by omega)).trans (by omega)
              refine xi_iinc (pc' := 106) (x := x4) (v := v354) (lv' := [(4, .int v354), (3, .int x3), (2, .int 1), (0, .ref 115), (1, .int x1)]) kc_50_103 rfl rfl ev354 rfl (xm_lt ml_50 rfl) ?_
              refine xi_goto (pc' := 33) kc_50_106 rfl ?_
              have zc1 : (1 : Int32).toInt = 1 := by decide
              refine xw_lv (b := [(0, .ref 115), (1, .int x1), (2, .int 1), (3, .int x3), (4, .int v354)]) (lvS_cons (lvS_cons (lvS_cons (lvS_cons (lvS_cons (lvS_nil (show ([4, 3, 2, 0, 1] : List Nat).Nodup by decide)) rfl) rfl) rfl) rfl) rfl) ?_
              exact i0 x1 1 x3 v354 hh334 (by omega) (by omega) K336 (by omega)
            · refine xi_cmf (pc' := 93) kc_50_90 rfl (xc_ge_f (X := r333.toInt) (Y := x3.toInt) rfl rfl (by omega)) ?_
              refine xi_iload (pc' := 95) (x := x4) kc_50_93 rfl rfl ?_
              refine xi_static (mj := 49) (as := [.int x4]) (st1 := []) (lv0 := [(0, .int x4)]) kc_50_95 rfl rfl (Nat.le_of_ble_eq_true rfl) rfl rfl (Nat.le_of_ble_eq_true rfl) (hJ _ _ _ _ (by decide)) (xm_le ml_49 rfl) rfl ?_
              refine mt_49_0 hJ hov1 hov2 (d := d + 5) (x0 := x4) K336.1 (fun r355 hh356 K357 => ?_)
              have br355 := xc_rng r355
              have K358 := xk_tr K336 K357 rfl
              refine xp_115 K358.1 (fun u359 u360 u361 u362 u363 u364 u365 u366 u367 u368 u369 u370 u371 bu359 bu360 bu361 bu362 bu363 bu364 bu365 bu366 bu367 bu368 bu369 bu370 bu371 A372 => ?_)
              have e373 : u2 = u360 := xk_eqi (q := 1) K357 rfl A350 A372 rfl rfl
              subst e373
              have e374 : u4 = u362 := xk_eqi (q := 18) K357 rfl A350 A372 rfl rfl
              subst e374
              show xw J ov (d + 7) 50 (98, [(2, .int 1), (0, .ref 115), (1, .int x1), (3, .int x3), (4, .int x4)], [.int r355], hh356) _
              refine xi_goto (pc' := 102) kc_50_98 rfl ?_
              refine xi_istore_n (pc' := 103) (lv' := [(3, .int r355), (2, .int 1), (0, .ref 115), (1, .int x1), (4, .int x4)]) kc_50_102 rfl rfl (xm_lt ml_50 rfl) ?_
              refine xcps2 (α := Int32) (x4 + 1) (fun v375 ev375 => ?_)
              have zv375 : v375.toInt = (x4.toInt + 1) := by rw [← ev375]; exact (xz_add (X := x4.toInt) (Y := 1) rfl (by decide) (by omega) (by omega)).trans (by omega)
              refine xi_iinc (pc' := 106) (x := x4) (v := v375) (lv' := [(4, .int v375), (3, .int r355), (2, .int 1), (0, .ref 115), (1, .int x1)]) kc_50_103 rfl rfl ev375 rfl (xm_lt ml_50 rfl) ?_
              refine xi_goto (pc' := 33) kc_50_106 rfl ?_
              have zc1 : (1 : Int32).toInt = 1 := by decide
              refine xw_lv (b := [(0, .ref 115), (1, .int x1), (2, .int 1), (3, .int r355), (4, .int v375)]) (lvS_cons (lvS_cons (lvS_cons (lvS_cons (lvS_cons (lvS_nil (show ([4, 3, 2, 0, 1] : List Nat).Nodup by decide)) rfl) rfl) rfl) rfl) rfl) ?_
              exact i0 x1 1 r355 v375 hh356 (by omega) (by omega) K358 (by omega)
        · have zv201c203 : v201 ≠ 0 := xj_lc ev202 (by omega)
          refine xi_ift (pc' := 103) kc_50_51 rfl (xc_ne_t (X := v202.toInt) (Y := 0) rfl (by decide) (by omega)) ?_
          refine xcps2 (α := Int32) (x4 + 1) (fun v376 ev376 => ?_)
          have zv376 : v376.toInt = (x4.toInt + 1) := by rw [← ev376]; exact (xz_add (X := x4.toInt) (Y := 1) rfl (by decide) (by omega) (by omega)).trans (by omega)
          refine xi_iinc (pc' := 106) (x := x4) (v := v376) (lv' := [(4, .int v376), (0, .ref 115), (1, .int x1), (2, .int x2), (3, .int x3)]) kc_50_103 rfl rfl ev376 rfl (xm_lt ml_50 rfl) ?_
          refine xi_goto (pc' := 33) kc_50_106 rfl ?_
          refine xw_lv (b := [(0, .ref 115), (1, .int x1), (2, .int x2), (3, .int x3), (4, .int v376)]) (lvS_cons (lvS_cons (lvS_cons (lvS_cons (lvS_cons (lvS_nil (show ([4, 0, 1, 2, 3] : List Nat).Nodup by decide)) rfl) rfl) rfl) rfl) rfl) ?_
          exact i0 x1 x2 x3 v376 h (by omega) (by omega) K (by omega)
set_option maxHeartbeats 4000000 in
theorem mt_50_0 {J : xe_J} {ov : List (List Int32)} (hJ : ∀ d mj as h, mj ≠ xe_loff → J d mj as h = none) (hov1 : ov[1]? = some [10, 0, 0, 0, 0, 0]) (hov2 : ov[2]? = some [99, 30, 50, 50, 1, 99999]) {d : Nat} {Q : Option Value → xe_H → Prop} {h : xe_H} {x1 : Int32} (T : xt h) (kk : (∀ (r : Int32) (h' : xe_H), xk [(0, 9), (115, 1), (83, 0), (29, 0), (31, 0), (33, 0), (35, 0), (37, 0), (39, 0), (41, 0), (43, 0), (45, 0), (47, 0), (49, 0), (51, 0), (125, 0), (66, 8), (115, 18), (71, 0), (132, 0)] h h' → Q (some (.int r)) h')) : xw J ov (d + 7) 50 (0, [(0, .ref 115), (1, .int x1)], [], h) Q := by
  have K : xk [(0, 9), (115, 1), (83, 0), (29, 0), (31, 0), (33, 0), (35, 0), (37, 0), (39, 0), (41, 0), (43, 0), (45, 0), (47, 0), (49, 0), (51, 0), (125, 0), (66, 8), (115, 18), (71, 0), (132, 0)] h h := xk_re T
  have rx1 := xc_rng x1
  refine xi_aload_n (pc' := 1) (x := 115) kc_50_0 rfl rfl ?_
  refine xi_iconst (pc' := 2) (v := 0) kc_50_1 rfl rfl ?_
  refine xp_115 K.1 (fun u1 u2 u3 u4 u5 u6 u7 u8 u9 u10 u11 u12 u13 bu1 bu2 bu3 bu4 bu5 bu6 bu7 bu8 bu9 bu10 bu11 bu12 bu13 A14 => ?_)
  refine xi_putfield (pc' := 5) (fs' := [.int 0, .int u2, .ref 116, .ref 117, .ref 118, .ref 119, .ref 120, .ref 121, .ref 122, .ref 123, .ref 124, .ref 125, .ref 126, .ref 127, .ref 128, .ref 129, .int u3, .ref 130, .int u4, .ref 131, .ref 132, .ref 133, .ref 134, .int u5, .ref 135, .ref 136, .ref 137, .ref 138, .ref 139, .ref 140, .ref 141, .ref 142, .int u6, .int u7, .int u8, .ref 143, .ref 144, .ref 145, .ref 146, .ref 147, .ref 148, .int u9, .ref 149, .ref 150, .ref 151, .int u10, .ref 152, .ref 153, .ref 154, .ref 155, .ref 156, .ref 157, .ref 158, .ref 159, .int u11, .ref 160, .int u12, .ref 161, .ref 162, .ref 163, .ref 164, .int u13, .ref 165, .ref 166]) kc_50_2 rfl rfl rfl A14 rfl rfl rfl (Nat.le_of_ble_eq_true rfl) rfl (fun hh16 eh15 => ?_)
  have K17 := xk_pf (k := 0) (v := 0) K (xk_wf rfl) xD_115 A14 rfl (by first | omega | decide) (by first | omega | decide) eh15 rfl
  refine xi_iload_n (pc' := 6) (x := x1) kc_50_5 rfl rfl ?_
  refine xi_iconst (pc' := 7) (v := 0) kc_50_6 rfl rfl ?_
  refine xi_iconst (pc' := 8) (v := 1) kc_50_7 rfl rfl ?_
  refine xi_static (mj := 11) (as := [.int x1, .int 0, .int 1]) (st1 := []) (lv0 := [(0, .int x1), (1, .int 0), (2, .int 1)]) kc_50_8 rfl rfl (Nat.le_of_ble_eq_true rfl) rfl rfl (Nat.le_of_ble_eq_true rfl) (hJ _ _ _ _ (by decide)) (xm_le ml_11 rfl) rfl ?_
  refine xi_iload_n (pc' := 1) (x := x1) kc_11_0 rfl rfl ?_
  refine xi_iload_n (pc' := 2) (x := 0) kc_11_1 rfl rfl ?_
  by_cases c18 : x1.toInt < 0
  · refine xi_cmt (pc' := 14) kc_11_2 rfl (xc_lt_t (X := x1.toInt) (Y := 0) rfl (by decide) (by omega)) ?_
    refine xi_iconst (pc' := 15) (v := 0) kc_11_14 rfl rfl ?_
    refine xi_ireturn kc_11_15 mr_11 rfl ?_
    show xw J ov (d + 7) 50 (11, [(0, .ref 115), (1, .int x1)], [.int 0], hh16) _
    refine xi_iff (pc' := 14) kc_50_11 rfl rfl ?_
    refine xi_aload_n (pc' := 15) (x := 115) kc_50_14 rfl rfl ?_
    refine xi_bipush (pc' := 17) (v := (-2)) kc_50_15 rfl rfl ?_
    refine xi_virtual (mj := 12) (as := [.int (-2)]) (st1 := []) (lv0 := [(0, .ref 115), (1, .int (-2))]) kc_50_17 rfl rfl rfl rfl rfl eh15.1 (Nat.le_of_ble_eq_true rfl) (hJ _ _ _ _ (by decide)) (xm_le ml_12 rfl) rfl ?_
    refine xi_aload_n (pc' := 1) (x := 115) kc_12_0 rfl rfl ?_
    refine xi_getfield (pc' := 4) (v := .ref 140) kc_12_1 rfl rfl rfl eh15.1 rfl ?_
    refine xi_iload_n (pc' := 5) (x := (-2)) kc_12_4 rfl rfl ?_
    refine xi_ineg (pc' := 6) (v := 2) kc_12_5 rfl rfl ?_
    refine xi_dup2 (pc' := 7) kc_12_6 rfl ⟨rfl, rfl⟩ ?_
    refine xcps4 (xk_arr K17.1 xD_140) (fun y19 A19 hy19 ry19 => ?_)
    refine xcps4 (xj_get hy19 ry19 (i := 2) (by decide) (by decide)) (fun v20 ev20 bv20 dv20 => ?_)
    refine xi_iaload (pc' := 8) (v := v20) kc_12_7 rfl A19 (by decide) rfl (xi_in (by decide) (by rw [hy19]; decide)) ev20 ?_
    refine xi_iconst (pc' := 9) (v := 1) kc_12_8 rfl rfl ?_
    refine xcps2 (α := Int32) ((v20 : Int32) + 1) (fun v21 ev21 => ?_)
    have rv21 := xc_rng v21
    refine xi_iadd (pc' := 10) (v := v21) kc_12_9 rfl ev21 ?_
    refine xcps4 (xj_set (v := v21) hy19 ry19 2 (by first | omega | decide) (by first | omega | decide)) (fun y22 s22 hy22 ry22 => ?_)
    refine xi_iastore (pc' := 11) (x' := y22) kc_12_10 rfl A19 rfl (xi_in (by decide) (by rw [hy19]; decide)) s22 (fun hh22 eh22 => ?_)
    have K23 := xk_pa K17 (xk_wa rfl) xD_140 hy22 ry22 eh22
    refine xi_iload_n (pc' := 12) (x := (-2)) kc_12_11 rfl rfl ?_
    refine xi_ireturn kc_12_12 mr_12 rfl ?_
    show xw J ov (d + 7) 50 (20, [(0, .ref 115), (1, .int x1)], [.int (-2)], hh22) _
    refine xi_ireturn kc_50_20 mr_50 rfl ?_
    have zcm2 : ((-2) : Int32).toInt = (-2) := by decide
    exact kk (-2) hh22 K23
  · refine xi_cmf (pc' := 5) kc_11_2 rfl (xc_lt_f (X := x1.toInt) (Y := 0) rfl (by decide) (by omega)) ?_
    refine xi_iload_n (pc' := 6) (x := x1) kc_11_5 rfl rfl ?_
    refine xi_iload_n (pc' := 7) (x := 1) kc_11_6 rfl rfl ?_
    by_cases c24 : 1 < x1.toInt
    · refine xi_cmt (pc' := 14) kc_11_7 rfl (xc_gt_t (X := x1.toInt) (Y := 1) rfl (by decide) (by omega)) ?_
      refine xi_iconst (pc' := 15) (v := 0) kc_11_14 rfl rfl ?_
      refine xi_ireturn kc_11_15 mr_11 rfl ?_
      show xw J ov (d + 7) 50 (11, [(0, .ref 115), (1, .int x1)], [.int 0], hh16) _
      refine xi_iff (pc' := 14) kc_50_11 rfl rfl ?_
      refine xi_aload_n (pc' := 15) (x := 115) kc_50_14 rfl rfl ?_
      refine xi_bipush (pc' := 17) (v := (-2)) kc_50_15 rfl rfl ?_
      refine xi_virtual (mj := 12) (as := [.int (-2)]) (st1 := []) (lv0 := [(0, .ref 115), (1, .int (-2))]) kc_50_17 rfl rfl rfl rfl rfl eh15.1 (Nat.le_of_ble_eq_true rfl) (hJ _ _ _ _ (by decide)) (xm_le ml_12 rfl) rfl ?_
      refine xi_aload_n (pc' := 1) (x := 115) kc_12_0 rfl rfl ?_
      refine xi_getfield (pc' := 4) (v := .ref 140) kc_12_1 rfl rfl rfl eh15.1 rfl ?_
      refine xi_iload_n (pc' := 5) (x := (-2)) kc_12_4 rfl rfl ?_
      refine xi_ineg (pc' := 6) (v := 2) kc_12_5 rfl rfl ?_
      refine xi_dup2 (pc' := 7) kc_12_6 rfl ⟨rfl, rfl⟩ ?_
      refine xcps4 (xk_arr K17.1 xD_140) (fun y25 A25 hy25 ry25 => ?_)
      refine xcps4 (xj_get hy25 ry25 (i := 2) (by decide) (by decide)) (fun v26 ev26 bv26 dv26 => ?_)
      refine xi_iaload (pc' := 8) (v := v26) kc_12_7 rfl A25 (by decide) rfl (xi_in (by decide) (by rw [hy25]; decide)) ev26 ?_
      refine xi_iconst (pc' := 9) (v := 1) kc_12_8 rfl rfl ?_
      refine xcps2 (α := Int32) ((v26 : Int32) + 1) (fun v27 ev27 => ?_)
      have rv27 := xc_rng v27
      refine xi_iadd (pc' := 10) (v := v27) kc_12_9 rfl ev27 ?_
      refine xcps4 (xj_set (v := v27) hy25 ry25 2 (by first | omega | decide) (by first | omega | decide)) (fun y28 s28 hy28 ry28 => ?_)
      refine xi_iastore (pc' := 11) (x' := y28) kc_12_10 rfl A25 rfl (xi_in (by decide) (by rw [hy25]; decide)) s28 (fun hh28 eh28 => ?_)
      have K29 := xk_pa K17 (xk_wa rfl) xD_140 hy28 ry28 eh28
      refine xi_iload_n (pc' := 12) (x := (-2)) kc_12_11 rfl rfl ?_
      refine xi_ireturn kc_12_12 mr_12 rfl ?_
      show xw J ov (d + 7) 50 (20, [(0, .ref 115), (1, .int x1)], [.int (-2)], hh28) _
      refine xi_ireturn kc_50_20 mr_50 rfl ?_
      have zcm2 : ((-2) : Int32).toInt = (-2) := by decide
      exact kk (-2) hh28 K29
    · refine xi_cmf (pc' := 10) kc_11_7 rfl (xc_gt_f (X := x1.toInt) (Y := 1) rfl (by decide) (by omega)) ?_
      refine xi_iconst (pc' := 11) (v := 1) kc_11_10 rfl rfl ?_
      refine xi_goto (pc' := 15) kc_11_11 rfl ?_
      refine xi_ireturn kc_11_15 mr_11 rfl ?_
      show xw J ov (d + 7) 50 (11, [(0, .ref 115), (1, .int x1)], [.int 1], hh16) _
      refine xi_ift (pc' := 21) kc_50_11 rfl rfl ?_
      refine xi_aload_n (pc' := 22) (x := 115) kc_50_21 rfl rfl ?_
      refine xi_virtual (mj := 43) (as := []) (st1 := []) (lv0 := [(0, .ref 115)]) kc_50_22 rfl rfl rfl rfl rfl eh15.1 (Nat.le_of_ble_eq_true rfl) (hJ _ _ _ _ (by decide)) (xm_le ml_43 rfl) rfl ?_
      refine mt_43_0 hJ hov1 hov2 (d := d)  K17.1 (fun hh31 K32 => ?_)
      have K33 := xk_tr K17 K32 rfl
      refine xp_115 K33.1 (fun u34 u35 u36 u37 u38 u39 u40 u41 u42 u43 u44 u45 u46 bu34 bu35 bu36 bu37 bu38 bu39 bu40 bu41 bu42 bu43 bu44 bu45 bu46 A47 => ?_)
      have e48 : u2 = u35 := xk_eqi (q := 1) K32 rfl eh15.1 A47 rfl rfl
      subst e48
      have e49 : u4 = u37 := xk_eqi (q := 18) K32 rfl eh15.1 A47 rfl rfl
      subst e49
      show xw J ov (d + 7) 50 (25, [(0, .ref 115), (1, .int x1)], [], hh31) _
      refine xi_iconst (pc' := 26) (v := 0) kc_50_25 rfl rfl ?_
      refine xi_istore_n (pc' := 27) (lv' := [(2, .int 0), (0, .ref 115), (1, .int x1)]) kc_50_26 rfl rfl (xm_lt ml_50 rfl) ?_
      refine xi_bipush (pc' := 29) (v := 99) kc_50_27 rfl rfl ?_
      refine xi_istore_n (pc' := 30) (lv' := [(3, .int 99), (2, .int 0), (0, .ref 115), (1, .int x1)]) kc_50_29 rfl rfl (xm_lt ml_50 rfl) ?_
      refine xi_iconst (pc' := 31) (v := 0) kc_50_30 rfl rfl ?_
      refine xi_istore (pc' := 33) (lv' := [(4, .int 0), (3, .int 99), (2, .int 0), (0, .ref 115), (1, .int x1)]) kc_50_31 rfl rfl (xm_lt ml_50 rfl) ?_
      have zc0 : (0 : Int32).toInt = 0 := by decide
      have zc99 : (99 : Int32).toInt = 99 := by decide
      refine xw_lv (b := [(0, .ref 115), (1, .int x1), (2, .int 0), (3, .int 99), (4, .int 0)]) (lvS_cons (lvS_cons (lvS_cons (lvS_cons (lvS_cons (lvS_nil (show ([4, 3, 2, 0, 1] : List Nat).Nodup by decide)) rfl) rfl) rfl) rfl) rfl) ?_
      exact (lp_50_0 hJ hov1 hov2 (d := d) (hb := hh31) (fun r9 h9 K9 => kk r9 h9 (xk_tr K33 K9 rfl)) 65) x1 0 99 0 hh31 (by omega) (by omega) (xk_re K33.1) (by omega)
set_option maxHeartbeats 4000000 in
theorem lp_53_0 {J : xe_J} {ov : List (List Int32)} (hJ : ∀ d mj as h, mj ≠ xe_loff → J d mj as h = none) (hov1 : ov[1]? = some [10, 0, 0, 0, 0, 0]) (hov2 : ov[2]? = some [99, 30, 50, 50, 1, 99999]) {d : Nat} {Q : Option Value → xe_H → Prop} {hb : xe_H} (kk : (∀ (r : Int32) (h' : xe_H), (0 ≤ r.toInt ∧ r.toInt ≤ 1) → xk [(0, 9), (115, 1), (83, 0), (29, 0), (31, 0), (33, 0), (35, 0), (37, 0), (39, 0), (41, 0), (43, 0), (45, 0), (47, 0), (49, 0), (51, 0), (125, 0), (66, 8), (115, 18), (71, 0), (132, 0)] hb h' → Q (some (.int r)) h')) : ∀ m : Nat, (∀ (x1 : Int32) (x2 : Int32) (x3 : Int32) (h : xe_H), (0 ≤ x1.toInt ∧ x1.toInt ≤ 63) → (0 ≤ x2.toInt ∧ x2.toInt ≤ 1) → (0 ≤ x3.toInt ∧ x3.toInt ≤ 8) → xk [(0, 9), (115, 1), (83, 0), (29, 0), (31, 0), (33, 0), (35, 0), (37, 0), (39, 0), (41, 0), (43, 0), (45, 0), (47, 0), (49, 0), (51, 0), (125, 0), (66, 8), (115, 18), (71, 0), (132, 0)] hb h → (-1) * x3.toInt + 8 < (m : Int) → xw J ov (d + 1) 53 (19, [(0, .ref 115), (1, .int x1), (2, .int x2), (3, .int x3)], [], h) Q) := by
  intro m
  induction m with
  | zero =>
    intro x1 x2 x3 h b1 b2 b3 K hm; exfalso; omega
  | succ m ih =>
    have i0 := ih
    intro x1 x2 x3 h b1 b2 b3 K hm
    refine xi_iload_n (pc' := 20) (x := x3) kc_53_19 rfl rfl ?_
    refine xi_aload_n (pc' := 21) (x := 115) kc_53_20 rfl rfl ?_
    refine xp_115 K.1 (fun u1 u2 u3 u4 u5 u6 u7 u8 u9 u10 u11 u12 u13 bu1 bu2 bu3 bu4 bu5 bu6 bu7 bu8 bu9 bu10 bu11 bu12 bu13 A14 => ?_)
    refine xi_getfield (pc' := 24) (v := .int u10) kc_53_21 rfl rfl rfl A14 rfl ?_
    by_cases c15 : u10.toInt ≤ x3.toInt
    · refine xi_cmt (pc' := 67) kc_53_24 rfl (xc_ge_t (X := x3.toInt) (Y := u10.toInt) rfl rfl (by omega)) ?_
      refine xi_iload_n (pc' := 68) (x := x2) kc_53_67 rfl rfl ?_
      by_cases c16 : x2.toInt = 0
      · have qx2 : x2 = 0 := xc_of (Eq.trans (by omega) (show (0 : Int) = (0 : Int32).toInt by decide))
        subst qx2
        refine xi_ireturn kc_53_68 mr_53 rfl ?_
        have zc0 : (0 : Int32).toInt = 0 := by decide
        exact kk 0 h (by omega) K
      have qx2 : x2 = 1 := xc_of (Eq.trans (by omega) (show (1 : Int) = (1 : Int32).toInt by decide))
      subst qx2
      refine xi_ireturn kc_53_68 mr_53 rfl ?_
      have zc1 : (1 : Int32).toInt = 1 := by decide
      exact kk 1 h (by omega) K
    · refine xi_cmf (pc' := 27) kc_53_24 rfl (xc_ge_f (X := x3.toInt) (Y := u10.toInt) rfl rfl (by omega)) ?_
      refine xi_iload_n (pc' := 28) (x := x2) kc_53_27 rfl rfl ?_
      by_cases c17 : x2.toInt = 0
      · refine xi_ift (pc' := 59) kc_53_28 rfl (xc_eq_t (X := x2.toInt) (Y := 0) rfl (by decide) (by omega)) ?_
        refine xi_iconst (pc' := 60) (v := 0) kc_53_59 rfl rfl ?_
        refine xi_istore_n (pc' := 61) (lv' := [(2, .int 0), (0, .ref 115), (1, .int x1), (3, .int x3)]) kc_53_60 rfl rfl (xm_lt ml_53 rfl) ?_
        refine xcps2 (α := Int32) (x3 + 1) (fun v18 ev18 => ?_)
        have zv18 : v18.toInt = (x3.toInt + 1) := by rw [← ev18]; exact (xz_add (X := x3.toInt) (Y := 1) rfl (by decide) (by omega) (by omega)).trans (by omega)
        refine xi_iinc (pc' := 64) (x := x3) (v := v18) (lv' := [(3, .int v18), (2, .int 0), (0, .ref 115), (1, .int x1)]) kc_53_61 rfl rfl ev18 rfl (xm_lt ml_53 rfl) ?_
        refine xi_goto (pc' := 19) kc_53_64 rfl ?_
        have zc0 : (0 : Int32).toInt = 0 := by decide
        refine xw_lv (b := [(0, .ref 115), (1, .int x1), (2, .int 0), (3, .int v18)]) (lvS_cons (lvS_cons (lvS_cons (lvS_cons (lvS_nil (show ([3, 2, 0, 1] : List Nat).Nodup by decide)) rfl) rfl) rfl) rfl) ?_
        exact i0 x1 0 v18 h (by omega) (by omega) (by omega) K (by omega)
      · refine xi_iff (pc' := 31) kc_53_28 rfl (xc_eq_f (X := x2.toInt) (Y := 0) rfl (by decide) (by omega)) ?_
        refine xi_aload_n (pc' := 32) (x := 115) kc_53_31 rfl rfl ?_
        refine xi_getfield (pc' := 35) (v := .ref 154) kc_53_32 rfl rfl rfl A14 rfl ?_
        refine xi_iload_n (pc' := 36) (x := x3) kc_53_35 rfl rfl ?_
        refine xcps4 (xk_arr K.1 xD_154) (fun y19 A19 hy19 ry19 => ?_)
        refine xcps4 (xj_get hy19 ry19 (i := x3) (by omega) (by omega)) (fun v20 ev20 bv20 dv20 => ?_)
        refine xi_iaload (pc' := 37) (v := v20) kc_53_36 rfl A19 (by decide) rfl (xi_in (by omega) (by rw [hy19]; omega)) ev20 ?_
        by_cases c21 : v20.toInt = 0
        · refine xi_ift (pc' := 55) kc_53_37 rfl (xc_eq_t (X := v20.toInt) (Y := 0) rfl (by decide) (by omega)) ?_
          refine xi_iconst (pc' := 56) (v := 1) kc_53_55 rfl rfl ?_
          refine xi_goto (pc' := 60) kc_53_56 rfl ?_
          refine xi_istore_n (pc' := 61) (lv' := [(2, .int 1), (0, .ref 115), (1, .int x1), (3, .int x3)]) kc_53_60 rfl rfl (xm_lt ml_53 rfl) ?_
          refine xcps2 (α := Int32) (x3 + 1) (fun v22 ev22 => ?_)
          have zv22 : v22.toInt = (x3.toInt + 1) := by rw [← ev22]; exact (xz_add (X := x3.toInt) (Y := 1) rfl (by decide) (by omega) (by omega)).trans (by omega)
          refine xi_iinc (pc' := 64) (x := x3) (v := v22) (lv' := [(3, .int v22), (2, .int 1), (0, .ref 115), (1, .int x1)]) kc_53_61 rfl rfl ev22 rfl (xm_lt ml_53 rfl) ?_
          refine xi_goto (pc' := 19) kc_53_64 rfl ?_
          have zc1 : (1 : Int32).toInt = 1 := by decide
          refine xw_lv (b := [(0, .ref 115), (1, .int x1), (2, .int 1), (3, .int v22)]) (lvS_cons (lvS_cons (lvS_cons (lvS_cons (lvS_nil (show ([3, 2, 0, 1] : List Nat).Nodup by decide)) rfl) rfl) rfl) rfl) ?_
          exact i0 x1 1 v22 h (by omega) (by omega) (by omega) K (by omega)
        · refine xi_iff (pc' := 40) kc_53_37 rfl (xc_eq_f (X := v20.toInt) (Y := 0) rfl (by decide) (by omega)) ?_
          refine xi_aload_n (pc' := 41) (x := 115) kc_53_40 rfl rfl ?_
          refine xi_getfield (pc' := 44) (v := .ref 154) kc_53_41 rfl rfl rfl A14 rfl ?_
          refine xi_iload_n (pc' := 45) (x := x3) kc_53_44 rfl rfl ?_
          refine xi_iaload (pc' := 46) (v := v20) kc_53_45 rfl A19 (by decide) rfl (xi_in (by omega) (by rw [hy19]; omega)) ev20 ?_
          refine xi_aload_n (pc' := 47) (x := 115) kc_53_46 rfl rfl ?_
          refine xi_iload_n (pc' := 48) (x := x3) kc_53_47 rfl rfl ?_
          refine xi_iload_n (pc' := 49) (x := x1) kc_53_48 rfl rfl ?_
          refine xi_virtual (mj := 54) (as := [.int x3, .int x1]) (st1 := [.int v20]) (lv0 := [(0, .ref 115), (1, .int x3), (2, .int x1)]) kc_53_49 rfl rfl rfl rfl rfl A14 (Nat.le_of_ble_eq_true rfl) (hJ _ _ _ _ (by decide)) (xm_le ml_54 rfl) rfl ?_
          refine xi_aload_n (pc' := 1) (x := 115) kc_54_0 rfl rfl ?_
          refine xi_getfield (pc' := 4) (v := .ref 152) kc_54_1 rfl rfl rfl A14 rfl ?_
          refine xi_iload_n (pc' := 5) (x := x3) kc_54_4 rfl rfl ?_
          refine xcps4 (xk_arr K.1 xD_152) (fun y23 A23 hy23 ry23 => ?_)
          refine xcps4 (xj_get hy23 ry23 (i := x3) (by omega) (by omega)) (fun v24 ev24 bv24 dv24 => ?_)
          refine xi_iaload (pc' := 6) (v := v24) kc_54_5 rfl A23 (by decide) rfl (xi_in (by omega) (by rw [hy23]; omega)) ev24 ?_
          refine xi_iload_n (pc' := 7) (x := x1) kc_54_6 rfl rfl ?_
          refine xcps2 (α := Int32) ((v24 : Int32) &&& x1) (fun v25 ev25 => ?_)
          have rv25 := xc_rng v25
          refine xi_iand (pc' := 8) (v := v25) kc_54_7 rfl ev25 ?_
          by_cases c26 : v25.toInt = 0
          · refine xi_ift (pc' := 15) kc_54_8 rfl (xc_eq_t (X := v25.toInt) (Y := 0) rfl (by decide) (by omega)) ?_
            refine xi_iconst (pc' := 16) (v := 2) kc_54_15 rfl rfl ?_
            refine xi_ireturn kc_54_16 mr_54 rfl ?_
            show xw J ov (d + 1) 53 (52, [(0, .ref 115), (1, .int x1), (2, .int x2), (3, .int x3)], [.int 2, .int v20], h) _
            by_cases c27 : v20.toInt = 2
            · refine xi_cmf (pc' := 55) kc_53_52 rfl (xc_ne_f (X := v20.toInt) (Y := 2) rfl (by decide) (by omega)) ?_
              refine xi_iconst (pc' := 56) (v := 1) kc_53_55 rfl rfl ?_
              refine xi_goto (pc' := 60) kc_53_56 rfl ?_
              refine xi_istore_n (pc' := 61) (lv' := [(2, .int 1), (0, .ref 115), (1, .int x1), (3, .int x3)]) kc_53_60 rfl rfl (xm_lt ml_53 rfl) ?_
              refine xcps2 (α := Int32) (x3 + 1) (fun v28 ev28 => ?_)
              have zv28 : v28.toInt = (x3.toInt + 1) := by rw [← ev28]; exact (xz_add (X := x3.toInt) (Y := 1) rfl (by decide) (by omega) (by omega)).trans (by omega)
              refine xi_iinc (pc' := 64) (x := x3) (v := v28) (lv' := [(3, .int v28), (2, .int 1), (0, .ref 115), (1, .int x1)]) kc_53_61 rfl rfl ev28 rfl (xm_lt ml_53 rfl) ?_
              refine xi_goto (pc' := 19) kc_53_64 rfl ?_
              have zc1 : (1 : Int32).toInt = 1 := by decide
              refine xw_lv (b := [(0, .ref 115), (1, .int x1), (2, .int 1), (3, .int v28)]) (lvS_cons (lvS_cons (lvS_cons (lvS_cons (lvS_nil (show ([3, 2, 0, 1] : List Nat).Nodup by decide)) rfl) rfl) rfl) rfl) ?_
              exact i0 x1 1 v28 h (by omega) (by omega) (by omega) K (by omega)
            · refine xi_cmt (pc' := 59) kc_53_52 rfl (xc_ne_t (X := v20.toInt) (Y := 2) rfl (by decide) (by omega)) ?_
              refine xi_iconst (pc' := 60) (v := 0) kc_53_59 rfl rfl ?_
              refine xi_istore_n (pc' := 61) (lv' := [(2, .int 0), (0, .ref 115), (1, .int x1), (3, .int x3)]) kc_53_60 rfl rfl (xm_lt ml_53 rfl) ?_
              refine xcps2 (α := Int32) (x3 + 1) (fun v29 ev29 => ?_)
              have zv29 : v29.toInt = (x3.toInt + 1) := by rw [← ev29]; exact (xz_add (X := x3.toInt) (Y := 1) rfl (by decide) (by omega) (by omega)).trans (by omega)
              refine xi_iinc (pc' := 64) (x := x3) (v := v29) (lv' := [(3, .int v29), (2, .int 0), (0, .ref 115), (1, .int x1)]) kc_53_61 rfl rfl ev29 rfl (xm_lt ml_53 rfl) ?_
              refine xi_goto (pc' := 19) kc_53_64 rfl ?_
              have zc0 : (0 : Int32).toInt = 0 := by decide
              refine xw_lv (b := [(0, .ref 115), (1, .int x1), (2, .int 0), (3, .int v29)]) (lvS_cons (lvS_cons (lvS_cons (lvS_cons (lvS_nil (show ([3, 2, 0, 1] : List Nat).Nodup by decide)) rfl) rfl) rfl) rfl) ?_
              exact i0 x1 0 v29 h (by omega) (by omega) (by omega) K (by omega)
          · refine xi_iff (pc' := 11) kc_54_8 rfl (xc_eq_f (X := v25.toInt) (Y := 0) rfl (by decide) (by omega)) ?_
            refine xi_iconst (pc' := 12) (v := 1) kc_54_11 rfl rfl ?_
            refine xi_goto (pc' := 16) kc_54_12 rfl ?_
            refine xi_ireturn kc_54_16 mr_54 rfl ?_
            show xw J ov (d + 1) 53 (52, [(0, .ref 115), (1, .int x1), (2, .int x2), (3, .int x3)], [.int 1, .int v20], h) _
            by_cases c30 : v20.toInt = 1
            · refine xi_cmf (pc' := 55) kc_53_52 rfl (xc_ne_f (X := v20.toInt) (Y := 1) rfl (by decide) (by omega)) ?_
              refine xi_iconst (pc' := 56) (v := 1) kc_53_55 rfl rfl ?_
              refine xi_goto (pc' := 60) kc_53_56 rfl ?_
              refine xi_istore_n (pc' := 61) (lv' := [(2, .int 1), (0, .ref 115), (1, .int x1), (3, .int x3)]) kc_53_60 rfl rfl (xm_lt ml_53 rfl) ?_
              refine xcps2 (α := Int32) (x3 + 1) (fun v31 ev31 => ?_)
              have zv31 : v31.toInt = (x3.toInt + 1) := by rw [← ev31]; exact (xz_add (X := x3.toInt) (Y := 1) rfl (by decide) (by omega) (by omega)).trans (by omega)
              refine xi_iinc (pc' := 64) (x := x3) (v := v31) (lv' := [(3, .int v31), (2, .int 1), (0, .ref 115), (1, .int x1)]) kc_53_61 rfl rfl ev31 rfl (xm_lt ml_53 rfl) ?_
              refine xi_goto (pc' := 19) kc_53_64 rfl ?_
              have zc1 : (1 : Int32).toInt = 1 := by decide
              refine xw_lv (b := [(0, .ref 115), (1, .int x1), (2, .int 1), (3, .int v31)]) (lvS_cons (lvS_cons (lvS_cons (lvS_cons (lvS_nil (show ([3, 2, 0, 1] : List Nat).Nodup by decide)) rfl) rfl) rfl) rfl) ?_
              exact i0 x1 1 v31 h (by omega) (by omega) (by omega) K (by omega)
            · refine xi_cmt (pc' := 59) kc_53_52 rfl (xc_ne_t (X := v20.toInt) (Y := 1) rfl (by decide) (by omega)) ?_
              refine xi_iconst (pc' := 60) (v := 0) kc_53_59 rfl rfl ?_
              refine xi_istore_n (pc' := 61) (lv' := [(2, .int 0), (0, .ref 115), (1, .int x1), (3, .int x3)]) kc_53_60 rfl rfl (xm_lt ml_53 rfl) ?_
              refine xcps2 (α := Int32) (x3 + 1) (fun v32 ev32 => ?_)
              have zv32 : v32.toInt = (x3.toInt + 1) := by rw [← ev32]; exact (xz_add (X := x3.toInt) (Y := 1) rfl (by decide) (by omega) (by omega)).trans (by omega)
              refine xi_iinc (pc' := 64) (x := x3) (v := v32) (lv' := [(3, .int v32), (2, .int 0), (0, .ref 115), (1, .int x1)]) kc_53_61 rfl rfl ev32 rfl (xm_lt ml_53 rfl) ?_
              refine xi_goto (pc' := 19) kc_53_64 rfl ?_
              have zc0 : (0 : Int32).toInt = 0 := by decide
              refine xw_lv (b := [(0, .ref 115), (1, .int x1), (2, .int 0), (3, .int v32)]) (lvS_cons (lvS_cons (lvS_cons (lvS_cons (lvS_nil (show ([3, 2, 0, 1] : List Nat).Nodup by decide)) rfl) rfl) rfl) rfl) ?_
              exact i0 x1 0 v32 h (by omega) (by omega) (by omega) K (by omega)
set_option maxHeartbeats 4000000 in
theorem mt_53_0 {J : xe_J} {ov : List (List Int32)} (hJ : ∀ d mj as h, mj ≠ xe_loff → J d mj as h = none) (hov1 : ov[1]? = some [10, 0, 0, 0, 0, 0]) (hov2 : ov[2]? = some [99, 30, 50, 50, 1, 99999]) {d : Nat} {Q : Option Value → xe_H → Prop} {h : xe_H} {x1 : Int32} (T : xt h) (b1 : (0 ≤ x1.toInt ∧ x1.toInt ≤ 63)) (kk : (∀ (r : Int32) (h' : xe_H), (0 ≤ r.toInt ∧ r.toInt ≤ 1) → xk [(0, 9), (115, 1), (83, 0), (29, 0), (31, 0), (33, 0), (35, 0), (37, 0), (39, 0), (41, 0), (43, 0), (45, 0), (47, 0), (49, 0), (51, 0), (125, 0), (66, 8), (115, 18), (71, 0), (132, 0)] h h' → Q (some (.int r)) h')) : xw J ov (d + 1) 53 (0, [(0, .ref 115), (1, .int x1)], [], h) Q := by
  have K : xk [(0, 9), (115, 1), (83, 0), (29, 0), (31, 0), (33, 0), (35, 0), (37, 0), (39, 0), (41, 0), (43, 0), (45, 0), (47, 0), (49, 0), (51, 0), (125, 0), (66, 8), (115, 18), (71, 0), (132, 0)] h h := xk_re T
  refine xi_aload_n (pc' := 1) (x := 115) kc_53_0 rfl rfl ?_
  refine xp_115 K.1 (fun u1 u2 u3 u4 u5 u6 u7 u8 u9 u10 u11 u12 u13 bu1 bu2 bu3 bu4 bu5 bu6 bu7 bu8 bu9 bu10 bu11 bu12 bu13 A14 => ?_)
  refine xi_getfield (pc' := 4) (v := .ref 149) kc_53_1 rfl rfl rfl A14 rfl ?_
  refine xi_iload_n (pc' := 5) (x := x1) kc_53_4 rfl rfl ?_
  obtain ⟨y15, A15, hy15⟩ := xk_larr K.1 xD_149
  refine xcps2 (α := Int64) (y15.getD (Int32.toNatClampNeg x1) 0) (fun v16 ev16 => ?_)
  refine xi_laload (pc' := 6) (v := v16) kc_53_5 rfl A15 rfl (xi_in (by omega) (by rw [hy15]; omega)) ev16 ?_
  refine xi_lconst (pc' := 7) (v := 0) kc_53_6 rfl rfl ?_
  refine xcps2 (α := Int32) (lg_cmp v16 0) (fun v17 ev17 => ?_)
  have rv17 := xc_rng v17
  refine xi_lcmp (pc' := 8) (v := v17) kc_53_7 rfl ev17 ?_
  by_cases c18 : v17.toInt = 0
  · refine xi_iff (pc' := 11) kc_53_8 rfl (xc_ne_f (X := v17.toInt) (Y := 0) rfl (by decide) (by omega)) ?_
    refine xi_iconst (pc' := 12) (v := 1) kc_53_11 rfl rfl ?_
    refine xi_goto (pc' := 16) kc_53_12 rfl ?_
    refine xi_istore_n (pc' := 17) (lv' := [(2, .int 1), (0, .ref 115), (1, .int x1)]) kc_53_16 rfl rfl (xm_lt ml_53 rfl) ?_
    refine xi_iconst (pc' := 18) (v := 0) kc_53_17 rfl rfl ?_
    refine xi_istore_n (pc' := 19) (lv' := [(3, .int 0), (2, .int 1), (0, .ref 115), (1, .int x1)]) kc_53_18 rfl rfl (xm_lt ml_53 rfl) ?_
    have zc0 : (0 : Int32).toInt = 0 := by decide
    have zc1 : (1 : Int32).toInt = 1 := by decide
    refine xw_lv (b := [(0, .ref 115), (1, .int x1), (2, .int 1), (3, .int 0)]) (lvS_cons (lvS_cons (lvS_cons (lvS_cons (lvS_nil (show ([3, 2, 0, 1] : List Nat).Nodup by decide)) rfl) rfl) rfl) rfl) ?_
    exact (lp_53_0 hJ hov1 hov2 (d := d) (hb := h) (fun r9 h9 b9 K9 => kk r9 h9 b9 (xk_tr K K9 rfl)) 9) x1 1 0 h (by omega) (by omega) (by omega) (xk_re K.1) (by omega)
  · have zv16c18 : v16 ≠ 0 := xj_lc ev17 (by omega)
    refine xi_ift (pc' := 15) kc_53_8 rfl (xc_ne_t (X := v17.toInt) (Y := 0) rfl (by decide) (by omega)) ?_
    refine xi_iconst (pc' := 16) (v := 0) kc_53_15 rfl rfl ?_
    refine xi_istore_n (pc' := 17) (lv' := [(2, .int 0), (0, .ref 115), (1, .int x1)]) kc_53_16 rfl rfl (xm_lt ml_53 rfl) ?_
    refine xi_iconst (pc' := 18) (v := 0) kc_53_17 rfl rfl ?_
    refine xi_istore_n (pc' := 19) (lv' := [(3, .int 0), (2, .int 0), (0, .ref 115), (1, .int x1)]) kc_53_18 rfl rfl (xm_lt ml_53 rfl) ?_
    have zc0 : (0 : Int32).toInt = 0 := by decide
    refine xw_lv (b := [(0, .ref 115), (1, .int x1), (2, .int 0), (3, .int 0)]) (lvS_cons (lvS_cons (lvS_cons (lvS_cons (lvS_nil (show ([3, 2, 0, 1] : List Nat).Nodup by decide)) rfl) rfl) rfl) rfl) ?_
    exact (lp_53_0 hJ hov1 hov2 (d := d) (hb := h) (fun r9 h9 b9 K9 => kk r9 h9 b9 (xk_tr K K9 rfl)) 9) x1 0 0 h (by omega) (by omega) (by omega) (xk_re K.1) (by omega)
set_option maxHeartbeats 4000000 in
theorem lp_52_0 {J : xe_J} {ov : List (List Int32)} (hJ : ∀ d mj as h, mj ≠ xe_loff → J d mj as h = none) (hov1 : ov[1]? = some [10, 0, 0, 0, 0, 0]) (hov2 : ov[2]? = some [99, 30, 50, 50, 1, 99999]) {d : Nat} {Q : Option Value → xe_H → Prop} {hb : xe_H} (kk : (∀ (r : Int32) (h' : xe_H), xk [(0, 9), (115, 1), (83, 0), (29, 0), (31, 0), (33, 0), (35, 0), (37, 0), (39, 0), (41, 0), (43, 0), (45, 0), (47, 0), (49, 0), (51, 0), (125, 0), (66, 8), (115, 18), (71, 0), (132, 0)] hb h' → Q (some (.int r)) h')) : ∀ m : Nat, (∀ (x1 : Int32) (x2 : Int32) (h : xe_H), (0 ≤ x2.toInt ∧ x2.toInt ≤ 64) → xk [(0, 9), (115, 1), (83, 0), (29, 0), (31, 0), (33, 0), (35, 0), (37, 0), (39, 0), (41, 0), (43, 0), (45, 0), (47, 0), (49, 0), (51, 0), (125, 0), (66, 8), (115, 18), (71, 0), (132, 0)] hb h → (-1) * x2.toInt + 64 < (m : Int) → xw J ov (d + 7) 52 (8, [(0, .ref 115), (1, .int x1), (2, .int x2)], [], h) Q) := by
  intro m
  induction m with
  | zero =>
    intro x1 x2 h b2 K hm; have rx1 := xc_rng x1; exfalso; omega
  | succ m ih =>
    have i0 := ih
    intro x1 x2 h b2 K hm
    have rx1 := xc_rng x1
    refine xi_iload_n (pc' := 9) (x := x2) kc_52_8 rfl rfl ?_
    refine xi_aload_n (pc' := 10) (x := 115) kc_52_9 rfl rfl ?_
    refine xp_115 K.1 (fun u1 u2 u3 u4 u5 u6 u7 u8 u9 u10 u11 u12 u13 bu1 bu2 bu3 bu4 bu5 bu6 bu7 bu8 bu9 bu10 bu11 bu12 bu13 A14 => ?_)
    refine xi_virtual (mj := 42) (as := []) (st1 := [.int x2]) (lv0 := [(0, .ref 115)]) kc_52_10 rfl rfl rfl rfl rfl A14 (Nat.le_of_ble_eq_true rfl) (hJ _ _ _ _ (by decide)) (xm_le ml_42 rfl) rfl ?_
    refine xi_iconst (pc' := 1) (v := 1) kc_42_0 rfl rfl ?_
    refine xi_aload_n (pc' := 2) (x := 115) kc_42_1 rfl rfl ?_
    refine xi_getfield (pc' := 5) (v := .int u5) kc_42_2 rfl rfl rfl A14 rfl ?_
    refine xi_bipush (pc' := 7) (v := 6) kc_42_5 rfl rfl ?_
    by_cases c15 : 6 ≤ u5.toInt
    · refine xi_cmt (pc' := 17) kc_42_7 rfl (xc_ge_t (X := u5.toInt) (Y := 6) rfl (by decide) (by omega)) ?_
      refine xi_bipush (pc' := 19) (v := 6) kc_42_17 rfl rfl ?_
      refine xi_ishl (pc' := 20) (v := 64) kc_42_19 rfl rfl ?_
      refine xi_ireturn kc_42_20 mr_42 rfl ?_
      show xw J ov (d + 7) 52 (13, [(0, .ref 115), (1, .int x1), (2, .int x2)], [.int 64, .int x2], h) _
      by_cases c16 : 64 ≤ x2.toInt
      · refine xi_cmt (pc' := 38) kc_52_13 rfl (xc_ge_t (X := x2.toInt) (Y := 64) rfl (by decide) (by omega)) ?_
        refine xi_iload_n (pc' := 39) (x := x1) kc_52_38 rfl rfl ?_
        refine xi_ireturn kc_52_39 mr_52 rfl ?_
        exact kk x1 h K
      · refine xi_cmf (pc' := 16) kc_52_13 rfl (xc_ge_f (X := x2.toInt) (Y := 64) rfl (by decide) (by omega)) ?_
        refine xi_iload_n (pc' := 17) (x := x1) kc_52_16 rfl rfl ?_
        refine xi_aload_n (pc' := 18) (x := 115) kc_52_17 rfl rfl ?_
        refine xi_iload_n (pc' := 19) (x := x2) kc_52_18 rfl rfl ?_
        refine xi_virtual (mj := 53) (as := [.int x2]) (st1 := [.int x1]) (lv0 := [(0, .ref 115), (1, .int x2)]) kc_52_19 rfl rfl rfl rfl rfl A14 (Nat.le_of_ble_eq_true rfl) (hJ _ _ _ _ (by decide)) (xm_le ml_53 rfl) rfl ?_
        refine mt_53_0 hJ hov1 hov2 (d := d + 5) (x1 := x2) K.1 (by first | omega | decide) (fun r17 hh18 br17 K19 => ?_)
        have K20 := xk_tr K K19 rfl
        refine xp_115 K20.1 (fun u21 u22 u23 u24 u25 u26 u27 u28 u29 u30 u31 u32 u33 bu21 bu22 bu23 bu24 bu25 bu26 bu27 bu28 bu29 bu30 bu31 bu32 bu33 A34 => ?_)
        have e35 : u2 = u22 := xk_eqi (q := 1) K19 rfl A14 A34 rfl rfl
        subst e35
        have e36 : u4 = u24 := xk_eqi (q := 18) K19 rfl A14 A34 rfl rfl
        subst e36
        show xw J ov (d + 7) 52 (22, [(0, .ref 115), (1, .int x1), (2, .int x2)], [.int r17, .int x1], hh18) _
        by_cases c37 : r17.toInt = 0
        · refine xi_ift (pc' := 29) kc_52_22 rfl (xc_eq_t (X := r17.toInt) (Y := 0) rfl (by decide) (by omega)) ?_
          refine xi_iconst (pc' := 30) (v := 0) kc_52_29 rfl rfl ?_
          refine xcps2 (α := Int32) (x1 + 0) (fun v38 ev38 => ?_)
          have zv38 : v38.toInt = x1.toInt := by rw [← ev38]; exact (xz_add (X := x1.toInt) (Y := 0) rfl (by decide) (by omega) (by omega)).trans (by omega)
          refine xi_iadd (pc' := 31) (v := v38) kc_52_30 rfl ev38 ?_
          refine xi_istore_n (pc' := 32) (lv' := [(1, .int v38), (0, .ref 115), (2, .int x2)]) kc_52_31 rfl rfl (xm_lt ml_52 rfl) ?_
          refine xcps2 (α := Int32) (x2 + 1) (fun v39 ev39 => ?_)
          have zv39 : v39.toInt = (x2.toInt + 1) := by rw [← ev39]; exact (xz_add (X := x2.toInt) (Y := 1) rfl (by decide) (by omega) (by omega)).trans (by omega)
          refine xi_iinc (pc' := 35) (x := x2) (v := v39) (lv' := [(2, .int v39), (1, .int v38), (0, .ref 115)]) kc_52_32 rfl rfl ev39 rfl (xm_lt ml_52 rfl) ?_
          refine xi_goto (pc' := 8) kc_52_35 rfl ?_
          refine xw_lv (b := [(0, .ref 115), (1, .int v38), (2, .int v39)]) (lvS_cons (lvS_cons (lvS_cons (lvS_nil (show ([2, 1, 0] : List Nat).Nodup by decide)) rfl) rfl) rfl) ?_
          exact i0 v38 v39 hh18 (by omega) K20 (by omega)
        · refine xi_iff (pc' := 25) kc_52_22 rfl (xc_eq_f (X := r17.toInt) (Y := 0) rfl (by decide) (by omega)) ?_
          refine xi_iconst (pc' := 26) (v := 1) kc_52_25 rfl rfl ?_
          refine xi_goto (pc' := 30) kc_52_26 rfl ?_
          refine xcps2 (α := Int32) ((x1 : Int32) + 1) (fun v40 ev40 => ?_)
          have rv40 := xc_rng v40
          refine xi_iadd (pc' := 31) (v := v40) kc_52_30 rfl ev40 ?_
          refine xi_istore_n (pc' := 32) (lv' := [(1, .int v40), (0, .ref 115), (2, .int x2)]) kc_52_31 rfl rfl (xm_lt ml_52 rfl) ?_
          refine xcps2 (α := Int32) (x2 + 1) (fun v41 ev41 => ?_)
          have zv41 : v41.toInt = (x2.toInt + 1) := by rw [← ev41]; exact (xz_add (X := x2.toInt) (Y := 1) rfl (by decide) (by omega) (by omega)).trans (by omega)
          refine xi_iinc (pc' := 35) (x := x2) (v := v41) (lv' := [(2, .int v41), (1, .int v40), (0, .ref 115)]) kc_52_32 rfl rfl ev41 rfl (xm_lt ml_52 rfl) ?_
          refine xi_goto (pc' := 8) kc_52_35 rfl ?_
          refine xw_lv (b := [(0, .ref 115), (1, .int v40), (2, .int v41)]) (lvS_cons (lvS_cons (lvS_cons (lvS_nil (show ([2, 1, 0] : List Nat).Nodup by decide)) rfl) rfl) rfl) ?_
          exact i0 v40 v41 hh18 (by omega) K20 (by omega)
    · refine xi_cmf (pc' := 10) kc_42_7 rfl (xc_ge_f (X := u5.toInt) (Y := 6) rfl (by decide) (by omega)) ?_
      refine xi_aload_n (pc' := 11) (x := 115) kc_42_10 rfl rfl ?_
      refine xi_getfield (pc' := 14) (v := .int u5) kc_42_11 rfl rfl rfl A14 rfl ?_
      refine xi_goto (pc' := 19) kc_42_14 rfl ?_
      refine xcps2 (α := Int32) ((1 : Int32) <<< (u5 &&& 31)) (fun v42 ev42 => ?_)
      have rv42 := xc_rng v42
      have bv42 : 1 ≤ v42.toInt ∧ v42.toInt ≤ 64 := by rw [← ev42]; exact xj_shl6 (by omega) (by omega)
      refine xi_ishl (pc' := 20) (v := v42) kc_42_19 rfl ev42 ?_
      refine xi_ireturn kc_42_20 mr_42 rfl ?_
      show xw J ov (d + 7) 52 (13, [(0, .ref 115), (1, .int x1), (2, .int x2)], [.int v42, .int x2], h) _
      by_cases c43 : v42.toInt ≤ x2.toInt
      · refine xi_cmt (pc' := 38) kc_52_13 rfl (xc_ge_t (X := x2.toInt) (Y := v42.toInt) rfl rfl (by omega)) ?_
        refine xi_iload_n (pc' := 39) (x := x1) kc_52_38 rfl rfl ?_
        refine xi_ireturn kc_52_39 mr_52 rfl ?_
        exact kk x1 h K
      · refine xi_cmf (pc' := 16) kc_52_13 rfl (xc_ge_f (X := x2.toInt) (Y := v42.toInt) rfl rfl (by omega)) ?_
        refine xi_iload_n (pc' := 17) (x := x1) kc_52_16 rfl rfl ?_
        refine xi_aload_n (pc' := 18) (x := 115) kc_52_17 rfl rfl ?_
        refine xi_iload_n (pc' := 19) (x := x2) kc_52_18 rfl rfl ?_
        refine xi_virtual (mj := 53) (as := [.int x2]) (st1 := [.int x1]) (lv0 := [(0, .ref 115), (1, .int x2)]) kc_52_19 rfl rfl rfl rfl rfl A14 (Nat.le_of_ble_eq_true rfl) (hJ _ _ _ _ (by decide)) (xm_le ml_53 rfl) rfl ?_
        refine mt_53_0 hJ hov1 hov2 (d := d + 5) (x1 := x2) K.1 (by first | omega | decide) (fun r44 hh45 br44 K46 => ?_)
        have K47 := xk_tr K K46 rfl
        refine xp_115 K47.1 (fun u48 u49 u50 u51 u52 u53 u54 u55 u56 u57 u58 u59 u60 bu48 bu49 bu50 bu51 bu52 bu53 bu54 bu55 bu56 bu57 bu58 bu59 bu60 A61 => ?_)
        have e62 : u2 = u49 := xk_eqi (q := 1) K46 rfl A14 A61 rfl rfl
        subst e62
        have e63 : u4 = u51 := xk_eqi (q := 18) K46 rfl A14 A61 rfl rfl
        subst e63
        show xw J ov (d + 7) 52 (22, [(0, .ref 115), (1, .int x1), (2, .int x2)], [.int r44, .int x1], hh45) _
        by_cases c64 : r44.toInt = 0
        · refine xi_ift (pc' := 29) kc_52_22 rfl (xc_eq_t (X := r44.toInt) (Y := 0) rfl (by decide) (by omega)) ?_
          refine xi_iconst (pc' := 30) (v := 0) kc_52_29 rfl rfl ?_
          refine xcps2 (α := Int32) (x1 + 0) (fun v65 ev65 => ?_)
          have zv65 : v65.toInt = x1.toInt := by rw [← ev65]; exact (xz_add (X := x1.toInt) (Y := 0) rfl (by decide) (by omega) (by omega)).trans (by omega)
          refine xi_iadd (pc' := 31) (v := v65) kc_52_30 rfl ev65 ?_
          refine xi_istore_n (pc' := 32) (lv' := [(1, .int v65), (0, .ref 115), (2, .int x2)]) kc_52_31 rfl rfl (xm_lt ml_52 rfl) ?_
          refine xcps2 (α := Int32) (x2 + 1) (fun v66 ev66 => ?_)
          have zv66 : v66.toInt = (x2.toInt + 1) := by rw [← ev66]; exact (xz_add (X := x2.toInt) (Y := 1) rfl (by decide) (by omega) (by omega)).trans (by omega)
          refine xi_iinc (pc' := 35) (x := x2) (v := v66) (lv' := [(2, .int v66), (1, .int v65), (0, .ref 115)]) kc_52_32 rfl rfl ev66 rfl (xm_lt ml_52 rfl) ?_
          refine xi_goto (pc' := 8) kc_52_35 rfl ?_
          refine xw_lv (b := [(0, .ref 115), (1, .int v65), (2, .int v66)]) (lvS_cons (lvS_cons (lvS_cons (lvS_nil (show ([2, 1, 0] : List Nat).Nodup by decide)) rfl) rfl) rfl) ?_
          exact i0 v65 v66 hh45 (by omega) K47 (by omega)
        · refine xi_iff (pc' := 25) kc_52_22 rfl (xc_eq_f (X := r44.toInt) (Y := 0) rfl (by decide) (by omega)) ?_
          refine xi_iconst (pc' := 26) (v := 1) kc_52_25 rfl rfl ?_
          refine xi_goto (pc' := 30) kc_52_26 rfl ?_
          refine xcps2 (α := Int32) ((x1 : Int32) + 1) (fun v67 ev67 => ?_)
          have rv67 := xc_rng v67
          refine xi_iadd (pc' := 31) (v := v67) kc_52_30 rfl ev67 ?_
          refine xi_istore_n (pc' := 32) (lv' := [(1, .int v67), (0, .ref 115), (2, .int x2)]) kc_52_31 rfl rfl (xm_lt ml_52 rfl) ?_
          refine xcps2 (α := Int32) (x2 + 1) (fun v68 ev68 => ?_)
          have zv68 : v68.toInt = (x2.toInt + 1) := by rw [← ev68]; exact (xz_add (X := x2.toInt) (Y := 1) rfl (by decide) (by omega) (by omega)).trans (by omega)
          refine xi_iinc (pc' := 35) (x := x2) (v := v68) (lv' := [(2, .int v68), (1, .int v67), (0, .ref 115)]) kc_52_32 rfl rfl ev68 rfl (xm_lt ml_52 rfl) ?_
          refine xi_goto (pc' := 8) kc_52_35 rfl ?_
          refine xw_lv (b := [(0, .ref 115), (1, .int v67), (2, .int v68)]) (lvS_cons (lvS_cons (lvS_cons (lvS_nil (show ([2, 1, 0] : List Nat).Nodup by decide)) rfl) rfl) rfl) ?_
          exact i0 v67 v68 hh45 (by omega) K47 (by omega)
set_option maxHeartbeats 4000000 in
theorem mt_52_0 {J : xe_J} {ov : List (List Int32)} (hJ : ∀ d mj as h, mj ≠ xe_loff → J d mj as h = none) (hov1 : ov[1]? = some [10, 0, 0, 0, 0, 0]) (hov2 : ov[2]? = some [99, 30, 50, 50, 1, 99999]) {d : Nat} {Q : Option Value → xe_H → Prop} {h : xe_H} (T : xt h) (kk : (∀ (r : Int32) (h' : xe_H), xk [(0, 9), (115, 1), (83, 0), (29, 0), (31, 0), (33, 0), (35, 0), (37, 0), (39, 0), (41, 0), (43, 0), (45, 0), (47, 0), (49, 0), (51, 0), (125, 0), (66, 8), (115, 18), (71, 0), (132, 0)] h h' → Q (some (.int r)) h')) : xw J ov (d + 7) 52 (0, [(0, .ref 115)], [], h) Q := by
  have K : xk [(0, 9), (115, 1), (83, 0), (29, 0), (31, 0), (33, 0), (35, 0), (37, 0), (39, 0), (41, 0), (43, 0), (45, 0), (47, 0), (49, 0), (51, 0), (125, 0), (66, 8), (115, 18), (71, 0), (132, 0)] h h := xk_re T
  refine xi_aload_n (pc' := 1) (x := 115) kc_52_0 rfl rfl ?_
  refine xp_115 K.1 (fun u1 u2 u3 u4 u5 u6 u7 u8 u9 u10 u11 u12 u13 bu1 bu2 bu3 bu4 bu5 bu6 bu7 bu8 bu9 bu10 bu11 bu12 bu13 A14 => ?_)
  refine xi_virtual (mj := 43) (as := []) (st1 := []) (lv0 := [(0, .ref 115)]) kc_52_1 rfl rfl rfl rfl rfl A14 (Nat.le_of_ble_eq_true rfl) (hJ _ _ _ _ (by decide)) (xm_le ml_43 rfl) rfl ?_
  refine mt_43_0 hJ hov1 hov2 (d := d)  K.1 (fun hh16 K17 => ?_)
  have K18 := xk_tr K K17 rfl
  refine xp_115 K18.1 (fun u19 u20 u21 u22 u23 u24 u25 u26 u27 u28 u29 u30 u31 bu19 bu20 bu21 bu22 bu23 bu24 bu25 bu26 bu27 bu28 bu29 bu30 bu31 A32 => ?_)
  have e33 : u2 = u20 := xk_eqi (q := 1) K17 rfl A14 A32 rfl rfl
  subst e33
  have e34 : u4 = u22 := xk_eqi (q := 18) K17 rfl A14 A32 rfl rfl
  subst e34
  show xw J ov (d + 7) 52 (4, [(0, .ref 115)], [], hh16) _
  refine xi_iconst (pc' := 5) (v := 0) kc_52_4 rfl rfl ?_
  refine xi_istore_n (pc' := 6) (lv' := [(1, .int 0), (0, .ref 115)]) kc_52_5 rfl rfl (xm_lt ml_52 rfl) ?_
  refine xi_iconst (pc' := 7) (v := 0) kc_52_6 rfl rfl ?_
  refine xi_istore_n (pc' := 8) (lv' := [(2, .int 0), (1, .int 0), (0, .ref 115)]) kc_52_7 rfl rfl (xm_lt ml_52 rfl) ?_
  have zc0 : (0 : Int32).toInt = 0 := by decide
  refine xw_lv (b := [(0, .ref 115), (1, .int 0), (2, .int 0)]) (lvS_cons (lvS_cons (lvS_cons (lvS_nil (show ([2, 1, 0] : List Nat).Nodup by decide)) rfl) rfl) rfl) ?_
  exact (lp_52_0 hJ hov1 hov2 (d := d) (hb := hh16) (fun r9 h9 K9 => kk r9 h9 (xk_tr K18 K9 rfl)) 65) 0 0 hh16 (by omega) (xk_re K18.1) (by omega)
set_option maxHeartbeats 4000000 in
theorem mt_51_0 {J : xe_J} {ov : List (List Int32)} (hJ : ∀ d mj as h, mj ≠ xe_loff → J d mj as h = none) (hov1 : ov[1]? = some [10, 0, 0, 0, 0, 0]) (hov2 : ov[2]? = some [99, 30, 50, 50, 1, 99999]) {d : Nat} {Q : Option Value → xe_H → Prop} {h : xe_H} (T : xt h) (kk : (∀ (r : Int32) (h' : xe_H), xk [(0, 9), (115, 1), (83, 0), (29, 0), (31, 0), (33, 0), (35, 0), (37, 0), (39, 0), (41, 0), (43, 0), (45, 0), (47, 0), (49, 0), (51, 0), (125, 0), (66, 8), (115, 18), (71, 0), (132, 0)] h h' → Q (some (.int r)) h')) : xw J ov (d + 8) 51 (0, [(0, .ref 115)], [], h) Q := by
  have K : xk [(0, 9), (115, 1), (83, 0), (29, 0), (31, 0), (33, 0), (35, 0), (37, 0), (39, 0), (41, 0), (43, 0), (45, 0), (47, 0), (49, 0), (51, 0), (125, 0), (66, 8), (115, 18), (71, 0), (132, 0)] h h := xk_re T
  refine xi_aload_n (pc' := 1) (x := 115) kc_51_0 rfl rfl ?_
  refine xi_iconst (pc' := 2) (v := 0) kc_51_1 rfl rfl ?_
  refine xp_115 K.1 (fun u1 u2 u3 u4 u5 u6 u7 u8 u9 u10 u11 u12 u13 bu1 bu2 bu3 bu4 bu5 bu6 bu7 bu8 bu9 bu10 bu11 bu12 bu13 A14 => ?_)
  refine xi_putfield (pc' := 5) (fs' := [.int 0, .int u2, .ref 116, .ref 117, .ref 118, .ref 119, .ref 120, .ref 121, .ref 122, .ref 123, .ref 124, .ref 125, .ref 126, .ref 127, .ref 128, .ref 129, .int u3, .ref 130, .int u4, .ref 131, .ref 132, .ref 133, .ref 134, .int u5, .ref 135, .ref 136, .ref 137, .ref 138, .ref 139, .ref 140, .ref 141, .ref 142, .int u6, .int u7, .int u8, .ref 143, .ref 144, .ref 145, .ref 146, .ref 147, .ref 148, .int u9, .ref 149, .ref 150, .ref 151, .int u10, .ref 152, .ref 153, .ref 154, .ref 155, .ref 156, .ref 157, .ref 158, .ref 159, .int u11, .ref 160, .int u12, .ref 161, .ref 162, .ref 163, .ref 164, .int u13, .ref 165, .ref 166]) kc_51_2 rfl rfl rfl A14 rfl rfl rfl (Nat.le_of_ble_eq_true rfl) rfl (fun hh16 eh15 => ?_)
  have K17 := xk_pf (k := 0) (v := 0) K (xk_wf rfl) xD_115 A14 rfl (by first | omega | decide) (by first | omega | decide) eh15 rfl
  refine xi_aload_n (pc' := 6) (x := 115) kc_51_5 rfl rfl ?_
  refine xi_virtual (mj := 52) (as := []) (st1 := []) (lv0 := [(0, .ref 115)]) kc_51_6 rfl rfl rfl rfl rfl eh15.1 (Nat.le_of_ble_eq_true rfl) (hJ _ _ _ _ (by decide)) (xm_le ml_52 rfl) rfl ?_
  refine mt_52_0 hJ hov1 hov2 (d := d)  K17.1 (fun r18 hh19 K20 => ?_)
  have br18 := xc_rng r18
  have K21 := xk_tr K17 K20 rfl
  refine xp_115 K21.1 (fun u22 u23 u24 u25 u26 u27 u28 u29 u30 u31 u32 u33 u34 bu22 bu23 bu24 bu25 bu26 bu27 bu28 bu29 bu30 bu31 bu32 bu33 bu34 A35 => ?_)
  have e36 : u2 = u23 := xk_eqi (q := 1) K20 rfl eh15.1 A35 rfl rfl
  subst e36
  have e37 : u4 = u25 := xk_eqi (q := 18) K20 rfl eh15.1 A35 rfl rfl
  subst e37
  show xw J ov (d + 8) 51 (9, [(0, .ref 115)], [.int r18], hh19) _
  refine xi_ireturn kc_51_9 mr_51 rfl ?_
  exact kk r18 hh19 K21
