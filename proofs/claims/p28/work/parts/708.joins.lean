set_option maxHeartbeats 4000000 in
theorem jl_c {J : xe_J} {ov : List (List Int32)} (hJ : ∀ d mj as h, mj ≠ xe_loff → J d mj as h = none) (hov1 : ov[1]? = some [10, 0, 0, 0, 0, 0]) (hov2 : ov[2]? = some [99, 30, 50, 50, 1, 99999]) {d : Nat} {Q : Option Value → xe_H → Prop} {h : xe_H} (T : xt h) {ys : List Int32} {yf : List Int32} {yd : List Int32} (Ays : h[81]? = some (.inl (0, .inl ys))) (hys : ys.length = 24) (rys : ∀ i, i < 24 → 0 ≤ (ys.getD i 0).toInt ∧ (ys.getD i 0).toInt ≤ 3) (Ayf : h[82]? = some (.inl (0, .inl yf))) (hyf : yf.length = 24) (ryf : ∀ i, i < 24 → 0 ≤ (yf.getD i 0).toInt ∧ (yf.getD i 0).toInt ≤ 5) (Ayd : h[83]? = some (.inl (0, .inl yd))) (hyd : yd.length = 24) (ryd : ∀ i, i < 24 → 0 ≤ (yd.getD i 0).toInt ∧ (yd.getD i 0).toInt ≤ 2) (kk : Q (some (.int (xjt (xjp ys yf yd) 24))) h) : ∀ m : Nat, (∀ (x1 x2 : Int32), (0 ≤ x2.toInt ∧ x2.toInt ≤ 24) → x1 = xjt (xjp ys yf yd) x2.toNatClampNeg → (-26) * x2.toInt + 650 < (m : Int) → xw J ov (d + 4) 170 (4, [(0, .ref 80), (1, .int x1), (2, .int x2)], [], h) Q) ∧ (∀ (x1 x2 x3 : Int32), (0 ≤ x2.toInt ∧ x2.toInt ≤ 23) → (0 ≤ x3.toInt ∧ x3.toInt ≤ x2.toInt) → x1 = xjt (xjp ys yf yd) x2.toNatClampNeg + xjr (xjp ys yf yd) x2.toNatClampNeg x3.toNatClampNeg → (-26) * x2.toInt + (-1) * x3.toInt + 648 < (m : Int) → xw J ov (d + 4) 170 (12, [(0, .ref 80), (1, .int x1), (2, .int x2), (3, .int x3)], [], h) Q) := by
  intro m
  induction m with
  | zero =>
    refine ⟨?_, ?_⟩
    · intro x1 x2 b2 hE hm; exfalso; omega
    · intro x1 x2 x3 b2 b3 hE hm; exfalso; omega
  | succ m ih =>
    obtain ⟨i0, i1⟩ := ih
    refine ⟨?_, ?_⟩
    · intro x1 x2 b2 hE hm
      have K : xk [] h h := xk_re T
      have rx1 := xc_rng x1
      refine xi_iload_n (pc' := 5) (x := x2) kc_170_4 rfl rfl ?_
      refine xi_bipush (pc' := 7) (v := 24) kc_170_5 rfl rfl ?_
      by_cases c1 : 24 ≤ x2.toInt
      · refine xi_cmt (pc' := 61) kc_170_7 rfl (xc_ge_t (X := x2.toInt) (Y := 24) rfl (by decide) (by omega)) ?_
        refine xi_iload_n (pc' := 62) (x := x1) kc_170_61 rfl rfl ?_
        refine xi_ireturn kc_170_62 mr_170 rfl ?_
        rw [xj_end hE (by omega)] at kk
        exact kk
      · refine xi_cmf (pc' := 10) kc_170_7 rfl (xc_ge_f (X := x2.toInt) (Y := 24) rfl (by decide) (by omega)) ?_
        refine xi_iconst (pc' := 11) (v := 0) kc_170_10 rfl rfl ?_
        refine xi_istore_n (pc' := 12) (lv' := [(3, .int 0), (0, .ref 80), (1, .int x1), (2, .int x2)]) kc_170_11 rfl rfl (xm_lt ml_170 rfl) ?_
        refine xw_lv (b := [(0, .ref 80), (1, .int x1), (2, .int x2), (3, .int 0)]) (lvS_cons (lvS_cons (lvS_cons (lvS_cons (lvS_nil (show ([3, 0, 1, 2] : List Nat).Nodup by decide)) rfl) rfl) rfl) rfl) ?_
        have zc0 : (0 : Int32).toInt = 0 := by decide
        exact i1 x1 x2 0 (by omega) (by omega) (xj_in hE) (by omega)
    · intro x1 x2 x3 b2 b3 hE hm
      have K : xk [] h h := xk_re T
      have rx1 := xc_rng x1
      refine xi_iload_n (pc' := 13) (x := x3) kc_170_12 rfl rfl ?_
      refine xi_iload_n (pc' := 14) (x := x2) kc_170_13 rfl rfl ?_
      by_cases c1 : x2.toInt ≤ x3.toInt
      · refine xi_cmt (pc' := 55) kc_170_14 rfl (xc_ge_t (X := x3.toInt) (Y := x2.toInt) rfl rfl (by omega)) ?_
        obtain ⟨v2, ev2⟩ : ∃ q : Int32, x2 + 1 = q := ⟨_, rfl⟩
        have zv2 : v2.toInt = (x2.toInt + 1) := by rw [← ev2]; exact (xz_add (X := x2.toInt) (Y := 1) rfl (by decide) (by omega) (by omega)).trans (by omega)
        refine xi_iinc (pc' := 58) (x := x2) (v := v2) (lv' := [(2, .int v2), (0, .ref 80), (1, .int x1), (3, .int x3)]) kc_170_55 rfl rfl ev2 rfl (xm_lt ml_170 rfl) ?_
        refine xi_goto (pc' := 4) kc_170_58 rfl ?_
        refine xw_lv (b := [(0, .ref 80), (1, .int x1), (2, .int v2)]) (lvS_cons (lvS_cons (lvS_cons (lvS_nil (show ([2, 0, 1, 3] : List Nat).Nodup by decide)) rfl) rfl) rfl) ?_
        exact i0 x1 v2 (by omega) (xj_out hE (by omega) (by omega) (by omega)) (by omega)
      · refine xi_cmf (pc' := 17) kc_170_14 rfl (xc_ge_f (X := x3.toInt) (Y := x2.toInt) rfl rfl (by omega)) ?_
        refine xi_aload_n (pc' := 18) (x := 80) kc_170_17 rfl rfl ?_
        have A3 := xq_80 K.1
        refine xi_getfield (pc' := 21) (v := .ref 83) kc_170_18 rfl rfl rfl A3 rfl ?_
        refine xi_iload_n (pc' := 22) (x := x2) kc_170_21 rfl rfl ?_
        obtain ⟨v4, ev4, bv4, dv4⟩ := xj_get hyd ryd (i := x2) (by omega) (by omega)
        refine xi_iaload (pc' := 23) (v := v4) kc_170_22 rfl Ayd (by decide) rfl (xi_in (by omega) (by rw [hyd]; omega)) ev4 ?_
        refine xi_iconst (pc' := 24) (v := 1) kc_170_23 rfl rfl ?_
        by_cases c5 : v4.toInt = 1
        · refine xi_cmf (pc' := 27) kc_170_24 rfl (xc_ne_f (X := v4.toInt) (Y := 1) rfl (by decide) (by omega)) ?_
          refine xi_aload_n (pc' := 28) (x := 80) kc_170_27 rfl rfl ?_
          refine xi_getfield (pc' := 31) (v := .ref 83) kc_170_28 rfl rfl rfl A3 rfl ?_
          refine xi_iload_n (pc' := 32) (x := x3) kc_170_31 rfl rfl ?_
          obtain ⟨v6, ev6, bv6, dv6⟩ := xj_get hyd ryd (i := x3) (by omega) (by omega)
          refine xi_iaload (pc' := 33) (v := v6) kc_170_32 rfl Ayd (by decide) rfl (xi_in (by omega) (by rw [hyd]; omega)) ev6 ?_
          refine xi_iconst (pc' := 34) (v := 1) kc_170_33 rfl rfl ?_
          by_cases c7 : v6.toInt = 1
          · refine xi_cmf (pc' := 37) kc_170_34 rfl (xc_ne_f (X := v6.toInt) (Y := 1) rfl (by decide) (by omega)) ?_
            refine xi_aload_n (pc' := 38) (x := 80) kc_170_37 rfl rfl ?_
            refine xi_iload_n (pc' := 39) (x := x2) kc_170_38 rfl rfl ?_
            refine xi_iload_n (pc' := 40) (x := x3) kc_170_39 rfl rfl ?_
            refine xi_virtual (mj := 171) (as := [.int x2, .int x3]) (st1 := []) (lv0 := [(0, .ref 80), (1, .int x2), (2, .int x3)]) kc_170_40 rfl rfl rfl rfl rfl A3 (Nat.le_of_ble_eq_true rfl) (hJ _ _ _ _ (by decide)) (xm_le ml_171 rfl) rfl ?_
            refine xi_aload_n (pc' := 1) (x := 80) kc_171_0 rfl rfl ?_
            refine xi_getfield (pc' := 4) (v := .ref 81) kc_171_1 rfl rfl rfl A3 rfl ?_
            refine xi_iload_n (pc' := 5) (x := x2) kc_171_4 rfl rfl ?_
            obtain ⟨v8, ev8, bv8, dv8⟩ := xj_get hys rys (i := x2) (by omega) (by omega)
            refine xi_iaload (pc' := 6) (v := v8) kc_171_5 rfl Ays (by decide) rfl (xi_in (by omega) (by rw [hys]; omega)) ev8 ?_
            refine xi_aload_n (pc' := 7) (x := 80) kc_171_6 rfl rfl ?_
            refine xi_getfield (pc' := 10) (v := .ref 81) kc_171_7 rfl rfl rfl A3 rfl ?_
            refine xi_iload_n (pc' := 11) (x := x3) kc_171_10 rfl rfl ?_
            obtain ⟨v9, ev9, bv9, dv9⟩ := xj_get hys rys (i := x3) (by omega) (by omega)
            refine xi_iaload (pc' := 12) (v := v9) kc_171_11 rfl Ays (by decide) rfl (xi_in (by omega) (by rw [hys]; omega)) ev9 ?_
            obtain ⟨v10, ev10⟩ : ∃ q : Int32, v8 - v9 = q := ⟨_, rfl⟩
            have zv10 : v10.toInt = (v8.toInt + (-1) * v9.toInt) := by rw [← ev10]; exact (xz_sub (X := v8.toInt) (Y := v9.toInt) rfl rfl (by omega) (by omega)).trans (by omega)
            refine xi_isub (pc' := 13) (v := v10) kc_171_12 rfl ev10 ?_
            refine xi_static (mj := 2) (as := [.int v10]) (st1 := []) (lv0 := [(0, .int v10)]) kc_171_13 rfl rfl (Nat.le_of_ble_eq_true rfl) rfl rfl (Nat.le_of_ble_eq_true rfl) (hJ _ _ _ _ (by decide)) (xm_le ml_2 rfl) rfl ?_
            refine xi_iload_n (pc' := 1) (x := v10) kc_2_0 rfl rfl ?_
            by_cases c11 : 0 ≤ (v8.toInt + (-1) * v9.toInt)
            · refine xi_ift (pc' := 9) kc_2_1 rfl (xc_ge_t (X := (v8.toInt + (-1) * v9.toInt)) (Y := 0) zv10 (by decide) (by omega)) ?_
              refine xi_iload_n (pc' := 10) (x := v10) kc_2_9 rfl rfl ?_
              refine xi_ireturn kc_2_10 mr_2 rfl ?_
              show xw J ov (d + 3) 171 (16, [(0, .ref 80), (1, .int x2), (2, .int x3)], [.int v10], h) _
              refine xi_istore_n (pc' := 17) (lv' := [(3, .int v10), (0, .ref 80), (1, .int x2), (2, .int x3)]) kc_171_16 rfl rfl (xm_lt ml_171 rfl) ?_
              refine xi_aload_n (pc' := 18) (x := 80) kc_171_17 rfl rfl ?_
              refine xi_getfield (pc' := 21) (v := .ref 82) kc_171_18 rfl rfl rfl A3 rfl ?_
              refine xi_iload_n (pc' := 22) (x := x2) kc_171_21 rfl rfl ?_
              obtain ⟨v12, ev12, bv12, dv12⟩ := xj_get hyf ryf (i := x2) (by omega) (by omega)
              refine xi_iaload (pc' := 23) (v := v12) kc_171_22 rfl Ayf (by decide) rfl (xi_in (by omega) (by rw [hyf]; omega)) ev12 ?_
              refine xi_aload_n (pc' := 24) (x := 80) kc_171_23 rfl rfl ?_
              refine xi_getfield (pc' := 27) (v := .ref 82) kc_171_24 rfl rfl rfl A3 rfl ?_
              refine xi_iload_n (pc' := 28) (x := x3) kc_171_27 rfl rfl ?_
              obtain ⟨v13, ev13, bv13, dv13⟩ := xj_get hyf ryf (i := x3) (by omega) (by omega)
              refine xi_iaload (pc' := 29) (v := v13) kc_171_28 rfl Ayf (by decide) rfl (xi_in (by omega) (by rw [hyf]; omega)) ev13 ?_
              obtain ⟨v14, ev14⟩ : ∃ q : Int32, v12 - v13 = q := ⟨_, rfl⟩
              have zv14 : v14.toInt = (v12.toInt + (-1) * v13.toInt) := by rw [← ev14]; exact (xz_sub (X := v12.toInt) (Y := v13.toInt) rfl rfl (by omega) (by omega)).trans (by omega)
              refine xi_isub (pc' := 30) (v := v14) kc_171_29 rfl ev14 ?_
              refine xi_static (mj := 2) (as := [.int v14]) (st1 := []) (lv0 := [(0, .int v14)]) kc_171_30 rfl rfl (Nat.le_of_ble_eq_true rfl) rfl rfl (Nat.le_of_ble_eq_true rfl) (hJ _ _ _ _ (by decide)) (xm_le ml_2 rfl) rfl ?_
              refine xi_iload_n (pc' := 1) (x := v14) kc_2_0 rfl rfl ?_
              by_cases c15 : 0 ≤ (v12.toInt + (-1) * v13.toInt)
              · refine xi_ift (pc' := 9) kc_2_1 rfl (xc_ge_t (X := (v12.toInt + (-1) * v13.toInt)) (Y := 0) zv14 (by decide) (by omega)) ?_
                refine xi_iload_n (pc' := 10) (x := v14) kc_2_9 rfl rfl ?_
                refine xi_ireturn kc_2_10 mr_2 rfl ?_
                show xw J ov (d + 3) 171 (33, [(3, .int v10), (0, .ref 80), (1, .int x2), (2, .int x3)], [.int v14], h) _
                refine xi_istore (pc' := 35) (lv' := [(4, .int v14), (3, .int v10), (0, .ref 80), (1, .int x2), (2, .int x3)]) kc_171_33 rfl rfl (xm_lt ml_171 rfl) ?_
                refine xi_iload_n (pc' := 36) (x := v10) kc_171_35 rfl rfl ?_
                refine xi_iload (pc' := 38) (x := v14) kc_171_36 rfl rfl ?_
                obtain ⟨v16, ev16⟩ : ∃ q : Int32, v10 + v14 = q := ⟨_, rfl⟩
                have zv16 : v16.toInt = (v8.toInt + (-1) * v9.toInt + v12.toInt + (-1) * v13.toInt) := by rw [← ev16]; exact (xz_add (X := (v8.toInt + (-1) * v9.toInt)) (Y := (v12.toInt + (-1) * v13.toInt)) zv10 zv14 (by omega) (by omega)).trans (by omega)
                refine xi_iadd (pc' := 39) (v := v16) kc_171_38 rfl ev16 ?_
                refine xi_iconst (pc' := 40) (v := 1) kc_171_39 rfl rfl ?_
                by_cases c17 : (v8.toInt + (-1) * v9.toInt + v12.toInt + (-1) * v13.toInt) = 1
                · refine xi_cmf (pc' := 43) kc_171_40 rfl (xc_ne_f (X := (v8.toInt + (-1) * v9.toInt + v12.toInt + (-1) * v13.toInt)) (Y := 1) zv16 (by decide) (by omega)) ?_
                  refine xi_iconst (pc' := 44) (v := 1) kc_171_43 rfl rfl ?_
                  refine xi_goto (pc' := 48) kc_171_44 rfl ?_
                  refine xi_ireturn kc_171_48 mr_171 rfl ?_
                  show xw J ov (d + 4) 170 (43, [(0, .ref 80), (1, .int x1), (2, .int x2), (3, .int x3)], [.int 1], h) _
                  refine xi_iff (pc' := 46) kc_170_43 rfl rfl ?_
                  obtain ⟨v18, ev18⟩ : ∃ q : Int32, (x1 : Int32) + 1 = q := ⟨_, rfl⟩
                  have rv18 := xc_rng v18
                  refine xi_iinc (pc' := 49) (x := x1) (v := v18) (lv' := [(1, .int v18), (0, .ref 80), (2, .int x2), (3, .int x3)]) kc_170_46 rfl rfl ev18 rfl (xm_lt ml_170 rfl) ?_
                  obtain ⟨v19, ev19⟩ : ∃ q : Int32, x3 + 1 = q := ⟨_, rfl⟩
                  have zv19 : v19.toInt = (x3.toInt + 1) := by rw [← ev19]; exact (xz_add (X := x3.toInt) (Y := 1) rfl (by decide) (by omega) (by omega)).trans (by omega)
                  refine xi_iinc (pc' := 52) (x := x3) (v := v19) (lv' := [(3, .int v19), (1, .int v18), (0, .ref 80), (2, .int x2)]) kc_170_49 rfl rfl ev19 rfl (xm_lt ml_170 rfl) ?_
                  refine xi_goto (pc' := 12) kc_170_52 rfl ?_
                  refine xw_lv (b := [(0, .ref 80), (1, .int v18), (2, .int x2), (3, .int v19)]) (lvS_cons (lvS_cons (lvS_cons (lvS_cons (lvS_nil (show ([3, 1, 0, 2] : List Nat).Nodup by decide)) rfl) rfl) rfl) rfl) ?_
                  have ff0 : (yd.getD (Int32.toNatClampNeg x2) 0).toInt = v4.toInt := by rw [ev4]
                  have ff1 : (yd.getD (Int32.toNatClampNeg x3) 0).toInt = v6.toInt := by rw [ev6]
                  have ff2 : (ys.getD (Int32.toNatClampNeg x2) 0).toInt = v8.toInt := by rw [ev8]
                  have ff3 : (ys.getD (Int32.toNatClampNeg x3) 0).toInt = v9.toInt := by rw [ev9]
                  have ff4 : (yf.getD (Int32.toNatClampNeg x2) 0).toInt = v12.toInt := by rw [ev12]
                  have ff5 : (yf.getD (Int32.toNatClampNeg x3) 0).toInt = v13.toInt := by rw [ev13]
                  exact i1 v18 x2 v19 (by omega) (by omega) (xj_yes (by unfold xjp; omega) hE ev18 (by omega) (by omega)) (by omega)
                · refine xi_cmt (pc' := 47) kc_171_40 rfl (xc_ne_t (X := (v8.toInt + (-1) * v9.toInt + v12.toInt + (-1) * v13.toInt)) (Y := 1) zv16 (by decide) (by omega)) ?_
                  refine xi_iconst (pc' := 48) (v := 0) kc_171_47 rfl rfl ?_
                  refine xi_ireturn kc_171_48 mr_171 rfl ?_
                  show xw J ov (d + 4) 170 (43, [(0, .ref 80), (1, .int x1), (2, .int x2), (3, .int x3)], [.int 0], h) _
                  refine xi_ift (pc' := 49) kc_170_43 rfl rfl ?_
                  obtain ⟨v20, ev20⟩ : ∃ q : Int32, x3 + 1 = q := ⟨_, rfl⟩
                  have zv20 : v20.toInt = (x3.toInt + 1) := by rw [← ev20]; exact (xz_add (X := x3.toInt) (Y := 1) rfl (by decide) (by omega) (by omega)).trans (by omega)
                  refine xi_iinc (pc' := 52) (x := x3) (v := v20) (lv' := [(3, .int v20), (0, .ref 80), (1, .int x1), (2, .int x2)]) kc_170_49 rfl rfl ev20 rfl (xm_lt ml_170 rfl) ?_
                  refine xi_goto (pc' := 12) kc_170_52 rfl ?_
                  refine xw_lv (b := [(0, .ref 80), (1, .int x1), (2, .int x2), (3, .int v20)]) (lvS_cons (lvS_cons (lvS_cons (lvS_cons (lvS_nil (show ([3, 0, 1, 2] : List Nat).Nodup by decide)) rfl) rfl) rfl) rfl) ?_
                  have ff0 : (yd.getD (Int32.toNatClampNeg x2) 0).toInt = v4.toInt := by rw [ev4]
                  have ff1 : (yd.getD (Int32.toNatClampNeg x3) 0).toInt = v6.toInt := by rw [ev6]
                  have ff2 : (ys.getD (Int32.toNatClampNeg x2) 0).toInt = v8.toInt := by rw [ev8]
                  have ff3 : (ys.getD (Int32.toNatClampNeg x3) 0).toInt = v9.toInt := by rw [ev9]
                  have ff4 : (yf.getD (Int32.toNatClampNeg x2) 0).toInt = v12.toInt := by rw [ev12]
                  have ff5 : (yf.getD (Int32.toNatClampNeg x3) 0).toInt = v13.toInt := by rw [ev13]
                  exact i1 x1 x2 v20 (by omega) (by omega) (xj_no (by unfold xjp; omega) hE (by omega) (by omega)) (by omega)
              · refine xi_iff (pc' := 4) kc_2_1 rfl (xc_ge_f (X := (v12.toInt + (-1) * v13.toInt)) (Y := 0) zv14 (by decide) (by omega)) ?_
                refine xi_iload_n (pc' := 5) (x := v14) kc_2_4 rfl rfl ?_
                obtain ⟨v21, ev21⟩ : ∃ q : Int32, -v14 = q := ⟨_, rfl⟩
                have zv21 : v21.toInt = ((-1) * v12.toInt + v13.toInt) := by rw [← ev21]; exact (xz_neg (X := (v12.toInt + (-1) * v13.toInt)) zv14 (by omega)).trans (by omega)
                refine xi_ineg (pc' := 6) (v := v21) kc_2_5 rfl ev21 ?_
                refine xi_goto (pc' := 10) kc_2_6 rfl ?_
                refine xi_ireturn kc_2_10 mr_2 rfl ?_
                show xw J ov (d + 3) 171 (33, [(3, .int v10), (0, .ref 80), (1, .int x2), (2, .int x3)], [.int v21], h) _
                refine xi_istore (pc' := 35) (lv' := [(4, .int v21), (3, .int v10), (0, .ref 80), (1, .int x2), (2, .int x3)]) kc_171_33 rfl rfl (xm_lt ml_171 rfl) ?_
                refine xi_iload_n (pc' := 36) (x := v10) kc_171_35 rfl rfl ?_
                refine xi_iload (pc' := 38) (x := v21) kc_171_36 rfl rfl ?_
                obtain ⟨v22, ev22⟩ : ∃ q : Int32, v10 + v21 = q := ⟨_, rfl⟩
                have zv22 : v22.toInt = (v8.toInt + (-1) * v9.toInt + (-1) * v12.toInt + v13.toInt) := by rw [← ev22]; exact (xz_add (X := (v8.toInt + (-1) * v9.toInt)) (Y := ((-1) * v12.toInt + v13.toInt)) zv10 zv21 (by omega) (by omega)).trans (by omega)
                refine xi_iadd (pc' := 39) (v := v22) kc_171_38 rfl ev22 ?_
                refine xi_iconst (pc' := 40) (v := 1) kc_171_39 rfl rfl ?_
                by_cases c23 : (v8.toInt + (-1) * v9.toInt + (-1) * v12.toInt + v13.toInt) = 1
                · refine xi_cmf (pc' := 43) kc_171_40 rfl (xc_ne_f (X := (v8.toInt + (-1) * v9.toInt + (-1) * v12.toInt + v13.toInt)) (Y := 1) zv22 (by decide) (by omega)) ?_
                  refine xi_iconst (pc' := 44) (v := 1) kc_171_43 rfl rfl ?_
                  refine xi_goto (pc' := 48) kc_171_44 rfl ?_
                  refine xi_ireturn kc_171_48 mr_171 rfl ?_
                  show xw J ov (d + 4) 170 (43, [(0, .ref 80), (1, .int x1), (2, .int x2), (3, .int x3)], [.int 1], h) _
                  refine xi_iff (pc' := 46) kc_170_43 rfl rfl ?_
                  obtain ⟨v24, ev24⟩ : ∃ q : Int32, (x1 : Int32) + 1 = q := ⟨_, rfl⟩
                  have rv24 := xc_rng v24
                  refine xi_iinc (pc' := 49) (x := x1) (v := v24) (lv' := [(1, .int v24), (0, .ref 80), (2, .int x2), (3, .int x3)]) kc_170_46 rfl rfl ev24 rfl (xm_lt ml_170 rfl) ?_
                  obtain ⟨v25, ev25⟩ : ∃ q : Int32, x3 + 1 = q := ⟨_, rfl⟩
                  have zv25 : v25.toInt = (x3.toInt + 1) := by rw [← ev25]; exact (xz_add (X := x3.toInt) (Y := 1) rfl (by decide) (by omega) (by omega)).trans (by omega)
                  refine xi_iinc (pc' := 52) (x := x3) (v := v25) (lv' := [(3, .int v25), (1, .int v24), (0, .ref 80), (2, .int x2)]) kc_170_49 rfl rfl ev25 rfl (xm_lt ml_170 rfl) ?_
                  refine xi_goto (pc' := 12) kc_170_52 rfl ?_
                  refine xw_lv (b := [(0, .ref 80), (1, .int v24), (2, .int x2), (3, .int v25)]) (lvS_cons (lvS_cons (lvS_cons (lvS_cons (lvS_nil (show ([3, 1, 0, 2] : List Nat).Nodup by decide)) rfl) rfl) rfl) rfl) ?_
                  have ff0 : (yd.getD (Int32.toNatClampNeg x2) 0).toInt = v4.toInt := by rw [ev4]
                  have ff1 : (yd.getD (Int32.toNatClampNeg x3) 0).toInt = v6.toInt := by rw [ev6]
                  have ff2 : (ys.getD (Int32.toNatClampNeg x2) 0).toInt = v8.toInt := by rw [ev8]
                  have ff3 : (ys.getD (Int32.toNatClampNeg x3) 0).toInt = v9.toInt := by rw [ev9]
                  have ff4 : (yf.getD (Int32.toNatClampNeg x2) 0).toInt = v12.toInt := by rw [ev12]
                  have ff5 : (yf.getD (Int32.toNatClampNeg x3) 0).toInt = v13.toInt := by rw [ev13]
                  exact i1 v24 x2 v25 (by omega) (by omega) (xj_yes (by unfold xjp; omega) hE ev24 (by omega) (by omega)) (by omega)
                · refine xi_cmt (pc' := 47) kc_171_40 rfl (xc_ne_t (X := (v8.toInt + (-1) * v9.toInt + (-1) * v12.toInt + v13.toInt)) (Y := 1) zv22 (by decide) (by omega)) ?_
                  refine xi_iconst (pc' := 48) (v := 0) kc_171_47 rfl rfl ?_
                  refine xi_ireturn kc_171_48 mr_171 rfl ?_
                  show xw J ov (d + 4) 170 (43, [(0, .ref 80), (1, .int x1), (2, .int x2), (3, .int x3)], [.int 0], h) _
                  refine xi_ift (pc' := 49) kc_170_43 rfl rfl ?_
                  obtain ⟨v26, ev26⟩ : ∃ q : Int32, x3 + 1 = q := ⟨_, rfl⟩
                  have zv26 : v26.toInt = (x3.toInt + 1) := by rw [← ev26]; exact (xz_add (X := x3.toInt) (Y := 1) rfl (by decide) (by omega) (by omega)).trans (by omega)
                  refine xi_iinc (pc' := 52) (x := x3) (v := v26) (lv' := [(3, .int v26), (0, .ref 80), (1, .int x1), (2, .int x2)]) kc_170_49 rfl rfl ev26 rfl (xm_lt ml_170 rfl) ?_
                  refine xi_goto (pc' := 12) kc_170_52 rfl ?_
                  refine xw_lv (b := [(0, .ref 80), (1, .int x1), (2, .int x2), (3, .int v26)]) (lvS_cons (lvS_cons (lvS_cons (lvS_cons (lvS_nil (show ([3, 0, 1, 2] : List Nat).Nodup by decide)) rfl) rfl) rfl) rfl) ?_
                  have ff0 : (yd.getD (Int32.toNatClampNeg x2) 0).toInt = v4.toInt := by rw [ev4]
                  have ff1 : (yd.getD (Int32.toNatClampNeg x3) 0).toInt = v6.toInt := by rw [ev6]
                  have ff2 : (ys.getD (Int32.toNatClampNeg x2) 0).toInt = v8.toInt := by rw [ev8]
                  have ff3 : (ys.getD (Int32.toNatClampNeg x3) 0).toInt = v9.toInt := by rw [ev9]
                  have ff4 : (yf.getD (Int32.toNatClampNeg x2) 0).toInt = v12.toInt := by rw [ev12]
                  have ff5 : (yf.getD (Int32.toNatClampNeg x3) 0).toInt = v13.toInt := by rw [ev13]
                  exact i1 x1 x2 v26 (by omega) (by omega) (xj_no (by unfold xjp; omega) hE (by omega) (by omega)) (by omega)
            · refine xi_iff (pc' := 4) kc_2_1 rfl (xc_ge_f (X := (v8.toInt + (-1) * v9.toInt)) (Y := 0) zv10 (by decide) (by omega)) ?_
              refine xi_iload_n (pc' := 5) (x := v10) kc_2_4 rfl rfl ?_
              obtain ⟨v27, ev27⟩ : ∃ q : Int32, -v10 = q := ⟨_, rfl⟩
              have zv27 : v27.toInt = ((-1) * v8.toInt + v9.toInt) := by rw [← ev27]; exact (xz_neg (X := (v8.toInt + (-1) * v9.toInt)) zv10 (by omega)).trans (by omega)
              refine xi_ineg (pc' := 6) (v := v27) kc_2_5 rfl ev27 ?_
              refine xi_goto (pc' := 10) kc_2_6 rfl ?_
              refine xi_ireturn kc_2_10 mr_2 rfl ?_
              show xw J ov (d + 3) 171 (16, [(0, .ref 80), (1, .int x2), (2, .int x3)], [.int v27], h) _
              refine xi_istore_n (pc' := 17) (lv' := [(3, .int v27), (0, .ref 80), (1, .int x2), (2, .int x3)]) kc_171_16 rfl rfl (xm_lt ml_171 rfl) ?_
              refine xi_aload_n (pc' := 18) (x := 80) kc_171_17 rfl rfl ?_
              refine xi_getfield (pc' := 21) (v := .ref 82) kc_171_18 rfl rfl rfl A3 rfl ?_
              refine xi_iload_n (pc' := 22) (x := x2) kc_171_21 rfl rfl ?_
              obtain ⟨v28, ev28, bv28, dv28⟩ := xj_get hyf ryf (i := x2) (by omega) (by omega)
              refine xi_iaload (pc' := 23) (v := v28) kc_171_22 rfl Ayf (by decide) rfl (xi_in (by omega) (by rw [hyf]; omega)) ev28 ?_
              refine xi_aload_n (pc' := 24) (x := 80) kc_171_23 rfl rfl ?_
              refine xi_getfield (pc' := 27) (v := .ref 82) kc_171_24 rfl rfl rfl A3 rfl ?_
              refine xi_iload_n (pc' := 28) (x := x3) kc_171_27 rfl rfl ?_
              obtain ⟨v29, ev29, bv29, dv29⟩ := xj_get hyf ryf (i := x3) (by omega) (by omega)
              refine xi_iaload (pc' := 29) (v := v29) kc_171_28 rfl Ayf (by decide) rfl (xi_in (by omega) (by rw [hyf]; omega)) ev29 ?_
              obtain ⟨v30, ev30⟩ : ∃ q : Int32, v28 - v29 = q := ⟨_, rfl⟩
              have zv30 : v30.toInt = (v28.toInt + (-1) * v29.toInt) := by rw [← ev30]; exact (xz_sub (X := v28.toInt) (Y := v29.toInt) rfl rfl (by omega) (by omega)).trans (by omega)
              refine xi_isub (pc' := 30) (v := v30) kc_171_29 rfl ev30 ?_
              refine xi_static (mj := 2) (as := [.int v30]) (st1 := []) (lv0 := [(0, .int v30)]) kc_171_30 rfl rfl (Nat.le_of_ble_eq_true rfl) rfl rfl (Nat.le_of_ble_eq_true rfl) (hJ _ _ _ _ (by decide)) (xm_le ml_2 rfl) rfl ?_
              refine xi_iload_n (pc' := 1) (x := v30) kc_2_0 rfl rfl ?_
              by_cases c31 : 0 ≤ (v28.toInt + (-1) * v29.toInt)
              · refine xi_ift (pc' := 9) kc_2_1 rfl (xc_ge_t (X := (v28.toInt + (-1) * v29.toInt)) (Y := 0) zv30 (by decide) (by omega)) ?_
                refine xi_iload_n (pc' := 10) (x := v30) kc_2_9 rfl rfl ?_
                refine xi_ireturn kc_2_10 mr_2 rfl ?_
                show xw J ov (d + 3) 171 (33, [(3, .int v27), (0, .ref 80), (1, .int x2), (2, .int x3)], [.int v30], h) _
                refine xi_istore (pc' := 35) (lv' := [(4, .int v30), (3, .int v27), (0, .ref 80), (1, .int x2), (2, .int x3)]) kc_171_33 rfl rfl (xm_lt ml_171 rfl) ?_
                refine xi_iload_n (pc' := 36) (x := v27) kc_171_35 rfl rfl ?_
                refine xi_iload (pc' := 38) (x := v30) kc_171_36 rfl rfl ?_
                obtain ⟨v32, ev32⟩ : ∃ q : Int32, v27 + v30 = q := ⟨_, rfl⟩
                have zv32 : v32.toInt = ((-1) * v8.toInt + v9.toInt + v28.toInt + (-1) * v29.toInt) := by rw [← ev32]; exact (xz_add (X := ((-1) * v8.toInt + v9.toInt)) (Y := (v28.toInt + (-1) * v29.toInt)) zv27 zv30 (by omega) (by omega)).trans (by omega)
                refine xi_iadd (pc' := 39) (v := v32) kc_171_38 rfl ev32 ?_
                refine xi_iconst (pc' := 40) (v := 1) kc_171_39 rfl rfl ?_
                by_cases c33 : ((-1) * v8.toInt + v9.toInt + v28.toInt + (-1) * v29.toInt) = 1
                · refine xi_cmf (pc' := 43) kc_171_40 rfl (xc_ne_f (X := ((-1) * v8.toInt + v9.toInt + v28.toInt + (-1) * v29.toInt)) (Y := 1) zv32 (by decide) (by omega)) ?_
                  refine xi_iconst (pc' := 44) (v := 1) kc_171_43 rfl rfl ?_
                  refine xi_goto (pc' := 48) kc_171_44 rfl ?_
                  refine xi_ireturn kc_171_48 mr_171 rfl ?_
                  show xw J ov (d + 4) 170 (43, [(0, .ref 80), (1, .int x1), (2, .int x2), (3, .int x3)], [.int 1], h) _
                  refine xi_iff (pc' := 46) kc_170_43 rfl rfl ?_
                  obtain ⟨v34, ev34⟩ : ∃ q : Int32, (x1 : Int32) + 1 = q := ⟨_, rfl⟩
                  have rv34 := xc_rng v34
                  refine xi_iinc (pc' := 49) (x := x1) (v := v34) (lv' := [(1, .int v34), (0, .ref 80), (2, .int x2), (3, .int x3)]) kc_170_46 rfl rfl ev34 rfl (xm_lt ml_170 rfl) ?_
                  obtain ⟨v35, ev35⟩ : ∃ q : Int32, x3 + 1 = q := ⟨_, rfl⟩
                  have zv35 : v35.toInt = (x3.toInt + 1) := by rw [← ev35]; exact (xz_add (X := x3.toInt) (Y := 1) rfl (by decide) (by omega) (by omega)).trans (by omega)
                  refine xi_iinc (pc' := 52) (x := x3) (v := v35) (lv' := [(3, .int v35), (1, .int v34), (0, .ref 80), (2, .int x2)]) kc_170_49 rfl rfl ev35 rfl (xm_lt ml_170 rfl) ?_
                  refine xi_goto (pc' := 12) kc_170_52 rfl ?_
                  refine xw_lv (b := [(0, .ref 80), (1, .int v34), (2, .int x2), (3, .int v35)]) (lvS_cons (lvS_cons (lvS_cons (lvS_cons (lvS_nil (show ([3, 1, 0, 2] : List Nat).Nodup by decide)) rfl) rfl) rfl) rfl) ?_
                  have ff0 : (yd.getD (Int32.toNatClampNeg x2) 0).toInt = v4.toInt := by rw [ev4]
                  have ff1 : (yd.getD (Int32.toNatClampNeg x3) 0).toInt = v6.toInt := by rw [ev6]
                  have ff2 : (ys.getD (Int32.toNatClampNeg x2) 0).toInt = v8.toInt := by rw [ev8]
                  have ff3 : (ys.getD (Int32.toNatClampNeg x3) 0).toInt = v9.toInt := by rw [ev9]
                  have ff4 : (yf.getD (Int32.toNatClampNeg x2) 0).toInt = v28.toInt := by rw [ev28]
                  have ff5 : (yf.getD (Int32.toNatClampNeg x3) 0).toInt = v29.toInt := by rw [ev29]
                  exact i1 v34 x2 v35 (by omega) (by omega) (xj_yes (by unfold xjp; omega) hE ev34 (by omega) (by omega)) (by omega)
                · refine xi_cmt (pc' := 47) kc_171_40 rfl (xc_ne_t (X := ((-1) * v8.toInt + v9.toInt + v28.toInt + (-1) * v29.toInt)) (Y := 1) zv32 (by decide) (by omega)) ?_
                  refine xi_iconst (pc' := 48) (v := 0) kc_171_47 rfl rfl ?_
                  refine xi_ireturn kc_171_48 mr_171 rfl ?_
                  show xw J ov (d + 4) 170 (43, [(0, .ref 80), (1, .int x1), (2, .int x2), (3, .int x3)], [.int 0], h) _
                  refine xi_ift (pc' := 49) kc_170_43 rfl rfl ?_
                  obtain ⟨v36, ev36⟩ : ∃ q : Int32, x3 + 1 = q := ⟨_, rfl⟩
                  have zv36 : v36.toInt = (x3.toInt + 1) := by rw [← ev36]; exact (xz_add (X := x3.toInt) (Y := 1) rfl (by decide) (by omega) (by omega)).trans (by omega)
                  refine xi_iinc (pc' := 52) (x := x3) (v := v36) (lv' := [(3, .int v36), (0, .ref 80), (1, .int x1), (2, .int x2)]) kc_170_49 rfl rfl ev36 rfl (xm_lt ml_170 rfl) ?_
                  refine xi_goto (pc' := 12) kc_170_52 rfl ?_
                  refine xw_lv (b := [(0, .ref 80), (1, .int x1), (2, .int x2), (3, .int v36)]) (lvS_cons (lvS_cons (lvS_cons (lvS_cons (lvS_nil (show ([3, 0, 1, 2] : List Nat).Nodup by decide)) rfl) rfl) rfl) rfl) ?_
                  have ff0 : (yd.getD (Int32.toNatClampNeg x2) 0).toInt = v4.toInt := by rw [ev4]
                  have ff1 : (yd.getD (Int32.toNatClampNeg x3) 0).toInt = v6.toInt := by rw [ev6]
                  have ff2 : (ys.getD (Int32.toNatClampNeg x2) 0).toInt = v8.toInt := by rw [ev8]
                  have ff3 : (ys.getD (Int32.toNatClampNeg x3) 0).toInt = v9.toInt := by rw [ev9]
                  have ff4 : (yf.getD (Int32.toNatClampNeg x2) 0).toInt = v28.toInt := by rw [ev28]
                  have ff5 : (yf.getD (Int32.toNatClampNeg x3) 0).toInt = v29.toInt := by rw [ev29]
                  exact i1 x1 x2 v36 (by omega) (by omega) (xj_no (by unfold xjp; omega) hE (by omega) (by omega)) (by omega)
              · refine xi_iff (pc' := 4) kc_2_1 rfl (xc_ge_f (X := (v28.toInt + (-1) * v29.toInt)) (Y := 0) zv30 (by decide) (by omega)) ?_
                refine xi_iload_n (pc' := 5) (x := v30) kc_2_4 rfl rfl ?_
                obtain ⟨v37, ev37⟩ : ∃ q : Int32, -v30 = q := ⟨_, rfl⟩
                have zv37 : v37.toInt = ((-1) * v28.toInt + v29.toInt) := by rw [← ev37]; exact (xz_neg (X := (v28.toInt + (-1) * v29.toInt)) zv30 (by omega)).trans (by omega)
                refine xi_ineg (pc' := 6) (v := v37) kc_2_5 rfl ev37 ?_
                refine xi_goto (pc' := 10) kc_2_6 rfl ?_
                refine xi_ireturn kc_2_10 mr_2 rfl ?_
                show xw J ov (d + 3) 171 (33, [(3, .int v27), (0, .ref 80), (1, .int x2), (2, .int x3)], [.int v37], h) _
                refine xi_istore (pc' := 35) (lv' := [(4, .int v37), (3, .int v27), (0, .ref 80), (1, .int x2), (2, .int x3)]) kc_171_33 rfl rfl (xm_lt ml_171 rfl) ?_
                refine xi_iload_n (pc' := 36) (x := v27) kc_171_35 rfl rfl ?_
                refine xi_iload (pc' := 38) (x := v37) kc_171_36 rfl rfl ?_
                obtain ⟨v38, ev38⟩ : ∃ q : Int32, v27 + v37 = q := ⟨_, rfl⟩
                have zv38 : v38.toInt = ((-1) * v8.toInt + v9.toInt + (-1) * v28.toInt + v29.toInt) := by rw [← ev38]; exact (xz_add (X := ((-1) * v8.toInt + v9.toInt)) (Y := ((-1) * v28.toInt + v29.toInt)) zv27 zv37 (by omega) (by omega)).trans (by omega)
                refine xi_iadd (pc' := 39) (v := v38) kc_171_38 rfl ev38 ?_
                refine xi_iconst (pc' := 40) (v := 1) kc_171_39 rfl rfl ?_
                by_cases c39 : ((-1) * v8.toInt + v9.toInt + (-1) * v28.toInt + v29.toInt) = 1
                · refine xi_cmf (pc' := 43) kc_171_40 rfl (xc_ne_f (X := ((-1) * v8.toInt + v9.toInt + (-1) * v28.toInt + v29.toInt)) (Y := 1) zv38 (by decide) (by omega)) ?_
                  refine xi_iconst (pc' := 44) (v := 1) kc_171_43 rfl rfl ?_
                  refine xi_goto (pc' := 48) kc_171_44 rfl ?_
                  refine xi_ireturn kc_171_48 mr_171 rfl ?_
                  show xw J ov (d + 4) 170 (43, [(0, .ref 80), (1, .int x1), (2, .int x2), (3, .int x3)], [.int 1], h) _
                  refine xi_iff (pc' := 46) kc_170_43 rfl rfl ?_
                  obtain ⟨v40, ev40⟩ : ∃ q : Int32, (x1 : Int32) + 1 = q := ⟨_, rfl⟩
                  have rv40 := xc_rng v40
                  refine xi_iinc (pc' := 49) (x := x1) (v := v40) (lv' := [(1, .int v40), (0, .ref 80), (2, .int x2), (3, .int x3)]) kc_170_46 rfl rfl ev40 rfl (xm_lt ml_170 rfl) ?_
                  obtain ⟨v41, ev41⟩ : ∃ q : Int32, x3 + 1 = q := ⟨_, rfl⟩
                  have zv41 : v41.toInt = (x3.toInt + 1) := by rw [← ev41]; exact (xz_add (X := x3.toInt) (Y := 1) rfl (by decide) (by omega) (by omega)).trans (by omega)
                  refine xi_iinc (pc' := 52) (x := x3) (v := v41) (lv' := [(3, .int v41), (1, .int v40), (0, .ref 80), (2, .int x2)]) kc_170_49 rfl rfl ev41 rfl (xm_lt ml_170 rfl) ?_
                  refine xi_goto (pc' := 12) kc_170_52 rfl ?_
                  refine xw_lv (b := [(0, .ref 80), (1, .int v40), (2, .int x2), (3, .int v41)]) (lvS_cons (lvS_cons (lvS_cons (lvS_cons (lvS_nil (show ([3, 1, 0, 2] : List Nat).Nodup by decide)) rfl) rfl) rfl) rfl) ?_
                  have ff0 : (yd.getD (Int32.toNatClampNeg x2) 0).toInt = v4.toInt := by rw [ev4]
                  have ff1 : (yd.getD (Int32.toNatClampNeg x3) 0).toInt = v6.toInt := by rw [ev6]
                  have ff2 : (ys.getD (Int32.toNatClampNeg x2) 0).toInt = v8.toInt := by rw [ev8]
                  have ff3 : (ys.getD (Int32.toNatClampNeg x3) 0).toInt = v9.toInt := by rw [ev9]
                  have ff4 : (yf.getD (Int32.toNatClampNeg x2) 0).toInt = v28.toInt := by rw [ev28]
                  have ff5 : (yf.getD (Int32.toNatClampNeg x3) 0).toInt = v29.toInt := by rw [ev29]
                  exact i1 v40 x2 v41 (by omega) (by omega) (xj_yes (by unfold xjp; omega) hE ev40 (by omega) (by omega)) (by omega)
                · refine xi_cmt (pc' := 47) kc_171_40 rfl (xc_ne_t (X := ((-1) * v8.toInt + v9.toInt + (-1) * v28.toInt + v29.toInt)) (Y := 1) zv38 (by decide) (by omega)) ?_
                  refine xi_iconst (pc' := 48) (v := 0) kc_171_47 rfl rfl ?_
                  refine xi_ireturn kc_171_48 mr_171 rfl ?_
                  show xw J ov (d + 4) 170 (43, [(0, .ref 80), (1, .int x1), (2, .int x2), (3, .int x3)], [.int 0], h) _
                  refine xi_ift (pc' := 49) kc_170_43 rfl rfl ?_
                  obtain ⟨v42, ev42⟩ : ∃ q : Int32, x3 + 1 = q := ⟨_, rfl⟩
                  have zv42 : v42.toInt = (x3.toInt + 1) := by rw [← ev42]; exact (xz_add (X := x3.toInt) (Y := 1) rfl (by decide) (by omega) (by omega)).trans (by omega)
                  refine xi_iinc (pc' := 52) (x := x3) (v := v42) (lv' := [(3, .int v42), (0, .ref 80), (1, .int x1), (2, .int x2)]) kc_170_49 rfl rfl ev42 rfl (xm_lt ml_170 rfl) ?_
                  refine xi_goto (pc' := 12) kc_170_52 rfl ?_
                  refine xw_lv (b := [(0, .ref 80), (1, .int x1), (2, .int x2), (3, .int v42)]) (lvS_cons (lvS_cons (lvS_cons (lvS_cons (lvS_nil (show ([3, 0, 1, 2] : List Nat).Nodup by decide)) rfl) rfl) rfl) rfl) ?_
                  have ff0 : (yd.getD (Int32.toNatClampNeg x2) 0).toInt = v4.toInt := by rw [ev4]
                  have ff1 : (yd.getD (Int32.toNatClampNeg x3) 0).toInt = v6.toInt := by rw [ev6]
                  have ff2 : (ys.getD (Int32.toNatClampNeg x2) 0).toInt = v8.toInt := by rw [ev8]
                  have ff3 : (ys.getD (Int32.toNatClampNeg x3) 0).toInt = v9.toInt := by rw [ev9]
                  have ff4 : (yf.getD (Int32.toNatClampNeg x2) 0).toInt = v28.toInt := by rw [ev28]
                  have ff5 : (yf.getD (Int32.toNatClampNeg x3) 0).toInt = v29.toInt := by rw [ev29]
                  exact i1 x1 x2 v42 (by omega) (by omega) (xj_no (by unfold xjp; omega) hE (by omega) (by omega)) (by omega)
          · refine xi_cmt (pc' := 49) kc_170_34 rfl (xc_ne_t (X := v6.toInt) (Y := 1) rfl (by decide) (by omega)) ?_
            obtain ⟨v43, ev43⟩ : ∃ q : Int32, x3 + 1 = q := ⟨_, rfl⟩
            have zv43 : v43.toInt = (x3.toInt + 1) := by rw [← ev43]; exact (xz_add (X := x3.toInt) (Y := 1) rfl (by decide) (by omega) (by omega)).trans (by omega)
            refine xi_iinc (pc' := 52) (x := x3) (v := v43) (lv' := [(3, .int v43), (0, .ref 80), (1, .int x1), (2, .int x2)]) kc_170_49 rfl rfl ev43 rfl (xm_lt ml_170 rfl) ?_
            refine xi_goto (pc' := 12) kc_170_52 rfl ?_
            refine xw_lv (b := [(0, .ref 80), (1, .int x1), (2, .int x2), (3, .int v43)]) (lvS_cons (lvS_cons (lvS_cons (lvS_cons (lvS_nil (show ([3, 0, 1, 2] : List Nat).Nodup by decide)) rfl) rfl) rfl) rfl) ?_
            have ff0 : (yd.getD (Int32.toNatClampNeg x2) 0).toInt = v4.toInt := by rw [ev4]
            have ff1 : (yd.getD (Int32.toNatClampNeg x3) 0).toInt = v6.toInt := by rw [ev6]
            exact i1 x1 x2 v43 (by omega) (by omega) (xj_no (by unfold xjp; omega) hE (by omega) (by omega)) (by omega)
        · refine xi_cmt (pc' := 49) kc_170_24 rfl (xc_ne_t (X := v4.toInt) (Y := 1) rfl (by decide) (by omega)) ?_
          obtain ⟨v44, ev44⟩ : ∃ q : Int32, x3 + 1 = q := ⟨_, rfl⟩
          have zv44 : v44.toInt = (x3.toInt + 1) := by rw [← ev44]; exact (xz_add (X := x3.toInt) (Y := 1) rfl (by decide) (by omega) (by omega)).trans (by omega)
          refine xi_iinc (pc' := 52) (x := x3) (v := v44) (lv' := [(3, .int v44), (0, .ref 80), (1, .int x1), (2, .int x2)]) kc_170_49 rfl rfl ev44 rfl (xm_lt ml_170 rfl) ?_
          refine xi_goto (pc' := 12) kc_170_52 rfl ?_
          refine xw_lv (b := [(0, .ref 80), (1, .int x1), (2, .int x2), (3, .int v44)]) (lvS_cons (lvS_cons (lvS_cons (lvS_cons (lvS_nil (show ([3, 0, 1, 2] : List Nat).Nodup by decide)) rfl) rfl) rfl) rfl) ?_
          have ff0 : (yd.getD (Int32.toNatClampNeg x2) 0).toInt = v4.toInt := by rw [ev4]
          exact i1 x1 x2 v44 (by omega) (by omega) (xj_no (by unfold xjp; omega) hE (by omega) (by omega)) (by omega)
theorem jn_c {J : xe_J} {ov : List (List Int32)} (hJ : ∀ d mj as h, mj ≠ xe_loff → J d mj as h = none) (hov1 : ov[1]? = some [10, 0, 0, 0, 0, 0]) (hov2 : ov[2]? = some [99, 30, 50, 50, 1, 99999]) {d : Nat} {Q : Option Value → xe_H → Prop} {h : xe_H} (T : xt h) {ys : List Int32} {yf : List Int32} {yd : List Int32} (Ays : h[81]? = some (.inl (0, .inl ys))) (hys : ys.length = 24) (rys : ∀ i, i < 24 → 0 ≤ (ys.getD i 0).toInt ∧ (ys.getD i 0).toInt ≤ 3) (Ayf : h[82]? = some (.inl (0, .inl yf))) (hyf : yf.length = 24) (ryf : ∀ i, i < 24 → 0 ≤ (yf.getD i 0).toInt ∧ (yf.getD i 0).toInt ≤ 5) (Ayd : h[83]? = some (.inl (0, .inl yd))) (hyd : yd.length = 24) (ryd : ∀ i, i < 24 → 0 ≤ (yd.getD i 0).toInt ∧ (yd.getD i 0).toInt ≤ 2) {v : Int32} (hv : xjt (xjp ys yf yd) 24 = v) (kk : Q (some (.int v)) h) : xw J ov (d + 4) 170 (0, [(0, .ref 80)], [], h) Q := by
  subst hv
  have zc0 : (0 : Int32).toInt = 0 := by decide
  refine xi_iconst (pc' := 1) (v := 0) kc_170_0 rfl rfl ?_
  refine xi_istore_n (pc' := 2) (lv' := [(1, .int 0), (0, .ref 80)]) kc_170_1 rfl rfl (xm_lt ml_170 rfl) ?_
  refine xi_iconst (pc' := 3) (v := 0) kc_170_2 rfl rfl ?_
  refine xi_istore_n (pc' := 4) (lv' := [(2, .int 0), (1, .int 0), (0, .ref 80)]) kc_170_3 rfl rfl (xm_lt ml_170 rfl) ?_
  refine xw_lv (b := [(0, .ref 80), (1, .int 0), (2, .int 0)]) (lvS_cons (lvS_cons (lvS_cons (lvS_nil (show ([2, 1, 0] : List Nat).Nodup by decide)) rfl) rfl) rfl) ?_
  exact (jl_c hJ hov1 hov2 T Ays hys rys Ayf hyf ryf Ayd hyd ryd kk 651).1 0 0 (by omega) rfl (by omega)
set_option maxHeartbeats 4000000 in
theorem jl_r {J : xe_J} {ov : List (List Int32)} (hJ : ∀ d mj as h, mj ≠ xe_loff → J d mj as h = none) (hov1 : ov[1]? = some [10, 0, 0, 0, 0, 0]) (hov2 : ov[2]? = some [99, 30, 50, 50, 1, 99999]) {d : Nat} {Q : Option Value → xe_H → Prop} {h : xe_H} (T : xt h) {ys : List Int32} {yf : List Int32} {yd : List Int32} (Ays : h[156]? = some (.inl (0, .inl ys))) (hys : ys.length = 24) (rys : ∀ i, i < 24 → 0 ≤ (ys.getD i 0).toInt ∧ (ys.getD i 0).toInt ≤ 3) (Ayf : h[157]? = some (.inl (0, .inl yf))) (hyf : yf.length = 24) (ryf : ∀ i, i < 24 → 0 ≤ (yf.getD i 0).toInt ∧ (yf.getD i 0).toInt ≤ 5) (Ayd : h[158]? = some (.inl (0, .inl yd))) (hyd : yd.length = 24) (ryd : ∀ i, i < 24 → 0 ≤ (yd.getD i 0).toInt ∧ (yd.getD i 0).toInt ≤ 2) (kk : Q (some (.int (xjt (xjp ys yf yd) 24))) h) : ∀ m : Nat, (∀ (x1 x2 : Int32), (0 ≤ x2.toInt ∧ x2.toInt ≤ 24) → x1 = xjt (xjp ys yf yd) x2.toNatClampNeg → (-26) * x2.toInt + 650 < (m : Int) → xw J ov (d + 4) 66 (4, [(0, .ref 115), (1, .int x1), (2, .int x2)], [], h) Q) ∧ (∀ (x1 x2 x3 : Int32), (0 ≤ x2.toInt ∧ x2.toInt ≤ 23) → (0 ≤ x3.toInt ∧ x3.toInt ≤ x2.toInt) → x1 = xjt (xjp ys yf yd) x2.toNatClampNeg + xjr (xjp ys yf yd) x2.toNatClampNeg x3.toNatClampNeg → (-26) * x2.toInt + (-1) * x3.toInt + 648 < (m : Int) → xw J ov (d + 4) 66 (12, [(0, .ref 115), (1, .int x1), (2, .int x2), (3, .int x3)], [], h) Q) := by
  intro m
  induction m with
  | zero =>
    refine ⟨?_, ?_⟩
    · intro x1 x2 b2 hE hm; exfalso; omega
    · intro x1 x2 x3 b2 b3 hE hm; exfalso; omega
  | succ m ih =>
    obtain ⟨i0, i1⟩ := ih
    refine ⟨?_, ?_⟩
    · intro x1 x2 b2 hE hm
      have K : xk [] h h := xk_re T
      have rx1 := xc_rng x1
      refine xi_iload_n (pc' := 5) (x := x2) kc_66_4 rfl rfl ?_
      refine xi_bipush (pc' := 7) (v := 24) kc_66_5 rfl rfl ?_
      by_cases c1 : 24 ≤ x2.toInt
      · refine xi_cmt (pc' := 66) kc_66_7 rfl (xc_ge_t (X := x2.toInt) (Y := 24) rfl (by decide) (by omega)) ?_
        refine xi_iload_n (pc' := 67) (x := x1) kc_66_66 rfl rfl ?_
        refine xi_ireturn kc_66_67 mr_66 rfl ?_
        rw [xj_end hE (by omega)] at kk
        exact kk
      · refine xi_cmf (pc' := 10) kc_66_7 rfl (xc_ge_f (X := x2.toInt) (Y := 24) rfl (by decide) (by omega)) ?_
        refine xi_iconst (pc' := 11) (v := 0) kc_66_10 rfl rfl ?_
        refine xi_istore_n (pc' := 12) (lv' := [(3, .int 0), (0, .ref 115), (1, .int x1), (2, .int x2)]) kc_66_11 rfl rfl (xm_lt ml_66 rfl) ?_
        refine xw_lv (b := [(0, .ref 115), (1, .int x1), (2, .int x2), (3, .int 0)]) (lvS_cons (lvS_cons (lvS_cons (lvS_cons (lvS_nil (show ([3, 0, 1, 2] : List Nat).Nodup by decide)) rfl) rfl) rfl) rfl) ?_
        have zc0 : (0 : Int32).toInt = 0 := by decide
        exact i1 x1 x2 0 (by omega) (by omega) (xj_in hE) (by omega)
    · intro x1 x2 x3 b2 b3 hE hm
      have K : xk [] h h := xk_re T
      have rx1 := xc_rng x1
      refine xi_iload_n (pc' := 13) (x := x3) kc_66_12 rfl rfl ?_
      refine xi_iload_n (pc' := 14) (x := x2) kc_66_13 rfl rfl ?_
      by_cases c1 : x2.toInt ≤ x3.toInt
      · refine xi_cmt (pc' := 60) kc_66_14 rfl (xc_ge_t (X := x3.toInt) (Y := x2.toInt) rfl rfl (by omega)) ?_
        obtain ⟨v2, ev2⟩ : ∃ q : Int32, x2 + 1 = q := ⟨_, rfl⟩
        have zv2 : v2.toInt = (x2.toInt + 1) := by rw [← ev2]; exact (xz_add (X := x2.toInt) (Y := 1) rfl (by decide) (by omega) (by omega)).trans (by omega)
        refine xi_iinc (pc' := 63) (x := x2) (v := v2) (lv' := [(2, .int v2), (0, .ref 115), (1, .int x1), (3, .int x3)]) kc_66_60 rfl rfl ev2 rfl (xm_lt ml_66 rfl) ?_
        refine xi_goto (pc' := 4) kc_66_63 rfl ?_
        refine xw_lv (b := [(0, .ref 115), (1, .int x1), (2, .int v2)]) (lvS_cons (lvS_cons (lvS_cons (lvS_nil (show ([2, 0, 1, 3] : List Nat).Nodup by decide)) rfl) rfl) rfl) ?_
        exact i0 x1 v2 (by omega) (xj_out hE (by omega) (by omega) (by omega)) (by omega)
      · refine xi_cmf (pc' := 17) kc_66_14 rfl (xc_ge_f (X := x3.toInt) (Y := x2.toInt) rfl rfl (by omega)) ?_
        refine xi_iload_n (pc' := 18) (x := x1) kc_66_17 rfl rfl ?_
        refine xi_aload_n (pc' := 19) (x := 115) kc_66_18 rfl rfl ?_
        obtain ⟨u3, u4, u5, u6, u7, u8, u9, u10, u11, u12, u13, u14, u15, bu3, bu4, bu5, bu6, bu7, bu8, bu9, bu10, bu11, bu12, bu13, bu14, bu15, A16⟩ := xq_115 K.1
        refine xi_getfield (pc' := 22) (v := .ref 158) kc_66_19 rfl rfl rfl A16 rfl ?_
        refine xi_iload_n (pc' := 23) (x := x2) kc_66_22 rfl rfl ?_
        obtain ⟨v17, ev17, bv17, dv17⟩ := xj_get hyd ryd (i := x2) (by omega) (by omega)
        refine xi_iaload (pc' := 24) (v := v17) kc_66_23 rfl Ayd (by decide) rfl (xi_in (by omega) (by rw [hyd]; omega)) ev17 ?_
        refine xi_iconst (pc' := 25) (v := 1) kc_66_24 rfl rfl ?_
        by_cases c18 : v17.toInt = 1
        · refine xi_cmf (pc' := 28) kc_66_25 rfl (xc_ne_f (X := v17.toInt) (Y := 1) rfl (by decide) (by omega)) ?_
          refine xi_aload_n (pc' := 29) (x := 115) kc_66_28 rfl rfl ?_
          refine xi_getfield (pc' := 32) (v := .ref 158) kc_66_29 rfl rfl rfl A16 rfl ?_
          refine xi_iload_n (pc' := 33) (x := x3) kc_66_32 rfl rfl ?_
          obtain ⟨v19, ev19, bv19, dv19⟩ := xj_get hyd ryd (i := x3) (by omega) (by omega)
          refine xi_iaload (pc' := 34) (v := v19) kc_66_33 rfl Ayd (by decide) rfl (xi_in (by omega) (by rw [hyd]; omega)) ev19 ?_
          refine xi_iconst (pc' := 35) (v := 1) kc_66_34 rfl rfl ?_
          by_cases c20 : v19.toInt = 1
          · refine xi_cmf (pc' := 38) kc_66_35 rfl (xc_ne_f (X := v19.toInt) (Y := 1) rfl (by decide) (by omega)) ?_
            refine xi_aload_n (pc' := 39) (x := 115) kc_66_38 rfl rfl ?_
            refine xi_iload_n (pc' := 40) (x := x2) kc_66_39 rfl rfl ?_
            refine xi_iload_n (pc' := 41) (x := x3) kc_66_40 rfl rfl ?_
            refine xi_virtual (mj := 67) (as := [.int x2, .int x3]) (st1 := [.int x1]) (lv0 := [(0, .ref 115), (1, .int x2), (2, .int x3)]) kc_66_41 rfl rfl rfl rfl rfl A16 (Nat.le_of_ble_eq_true rfl) (hJ _ _ _ _ (by decide)) (xm_le ml_67 rfl) rfl ?_
            refine xi_aload_n (pc' := 1) (x := 115) kc_67_0 rfl rfl ?_
            refine xi_getfield (pc' := 4) (v := .ref 156) kc_67_1 rfl rfl rfl A16 rfl ?_
            refine xi_iload_n (pc' := 5) (x := x2) kc_67_4 rfl rfl ?_
            obtain ⟨v21, ev21, bv21, dv21⟩ := xj_get hys rys (i := x2) (by omega) (by omega)
            refine xi_iaload (pc' := 6) (v := v21) kc_67_5 rfl Ays (by decide) rfl (xi_in (by omega) (by rw [hys]; omega)) ev21 ?_
            refine xi_aload_n (pc' := 7) (x := 115) kc_67_6 rfl rfl ?_
            refine xi_getfield (pc' := 10) (v := .ref 156) kc_67_7 rfl rfl rfl A16 rfl ?_
            refine xi_iload_n (pc' := 11) (x := x3) kc_67_10 rfl rfl ?_
            obtain ⟨v22, ev22, bv22, dv22⟩ := xj_get hys rys (i := x3) (by omega) (by omega)
            refine xi_iaload (pc' := 12) (v := v22) kc_67_11 rfl Ays (by decide) rfl (xi_in (by omega) (by rw [hys]; omega)) ev22 ?_
            obtain ⟨v23, ev23⟩ : ∃ q : Int32, v21 - v22 = q := ⟨_, rfl⟩
            have zv23 : v23.toInt = (v21.toInt + (-1) * v22.toInt) := by rw [← ev23]; exact (xz_sub (X := v21.toInt) (Y := v22.toInt) rfl rfl (by omega) (by omega)).trans (by omega)
            refine xi_isub (pc' := 13) (v := v23) kc_67_12 rfl ev23 ?_
            refine xi_istore_n (pc' := 14) (lv' := [(3, .int v23), (0, .ref 115), (1, .int x2), (2, .int x3)]) kc_67_13 rfl rfl (xm_lt ml_67 rfl) ?_
            refine xi_aload_n (pc' := 15) (x := 115) kc_67_14 rfl rfl ?_
            refine xi_getfield (pc' := 18) (v := .ref 157) kc_67_15 rfl rfl rfl A16 rfl ?_
            refine xi_iload_n (pc' := 19) (x := x2) kc_67_18 rfl rfl ?_
            obtain ⟨v24, ev24, bv24, dv24⟩ := xj_get hyf ryf (i := x2) (by omega) (by omega)
            refine xi_iaload (pc' := 20) (v := v24) kc_67_19 rfl Ayf (by decide) rfl (xi_in (by omega) (by rw [hyf]; omega)) ev24 ?_
            refine xi_aload_n (pc' := 21) (x := 115) kc_67_20 rfl rfl ?_
            refine xi_getfield (pc' := 24) (v := .ref 157) kc_67_21 rfl rfl rfl A16 rfl ?_
            refine xi_iload_n (pc' := 25) (x := x3) kc_67_24 rfl rfl ?_
            obtain ⟨v25, ev25, bv25, dv25⟩ := xj_get hyf ryf (i := x3) (by omega) (by omega)
            refine xi_iaload (pc' := 26) (v := v25) kc_67_25 rfl Ayf (by decide) rfl (xi_in (by omega) (by rw [hyf]; omega)) ev25 ?_
            obtain ⟨v26, ev26⟩ : ∃ q : Int32, v24 - v25 = q := ⟨_, rfl⟩
            have zv26 : v26.toInt = (v24.toInt + (-1) * v25.toInt) := by rw [← ev26]; exact (xz_sub (X := v24.toInt) (Y := v25.toInt) rfl rfl (by omega) (by omega)).trans (by omega)
            refine xi_isub (pc' := 27) (v := v26) kc_67_26 rfl ev26 ?_
            refine xi_istore (pc' := 29) (lv' := [(4, .int v26), (3, .int v23), (0, .ref 115), (1, .int x2), (2, .int x3)]) kc_67_27 rfl rfl (xm_lt ml_67 rfl) ?_
            refine xi_iload_n (pc' := 30) (x := v23) kc_67_29 rfl rfl ?_
            by_cases c27 : (v21.toInt + (-1) * v22.toInt) = 0
            · refine xi_iff (pc' := 33) kc_67_30 rfl (xc_ne_f (X := (v21.toInt + (-1) * v22.toInt)) (Y := 0) zv23 (by decide) (by omega)) ?_
              refine xi_iload (pc' := 35) (x := v26) kc_67_33 rfl rfl ?_
              refine xi_iconst (pc' := 36) (v := 1) kc_67_35 rfl rfl ?_
              by_cases c28 : (v24.toInt + (-1) * v25.toInt) = 1
              · refine xi_cmt (pc' := 60) kc_67_36 rfl (xc_eq_t (X := (v24.toInt + (-1) * v25.toInt)) (Y := 1) zv26 (by decide) (by omega)) ?_
                refine xi_iconst (pc' := 61) (v := 1) kc_67_60 rfl rfl ?_
                refine xi_goto (pc' := 65) kc_67_61 rfl ?_
                refine xi_ireturn kc_67_65 mr_67 rfl ?_
                show xw J ov (d + 4) 66 (44, [(0, .ref 115), (1, .int x1), (2, .int x2), (3, .int x3)], [.int 1, .int x1], h) _
                refine xi_iff (pc' := 47) kc_66_44 rfl rfl ?_
                refine xi_iconst (pc' := 48) (v := 1) kc_66_47 rfl rfl ?_
                refine xi_goto (pc' := 52) kc_66_48 rfl ?_
                obtain ⟨v29, ev29⟩ : ∃ q : Int32, (x1 : Int32) + 1 = q := ⟨_, rfl⟩
                have rv29 := xc_rng v29
                refine xi_iadd (pc' := 53) (v := v29) kc_66_52 rfl ev29 ?_
                refine xi_istore_n (pc' := 54) (lv' := [(1, .int v29), (0, .ref 115), (2, .int x2), (3, .int x3)]) kc_66_53 rfl rfl (xm_lt ml_66 rfl) ?_
                obtain ⟨v30, ev30⟩ : ∃ q : Int32, x3 + 1 = q := ⟨_, rfl⟩
                have zv30 : v30.toInt = (x3.toInt + 1) := by rw [← ev30]; exact (xz_add (X := x3.toInt) (Y := 1) rfl (by decide) (by omega) (by omega)).trans (by omega)
                refine xi_iinc (pc' := 57) (x := x3) (v := v30) (lv' := [(3, .int v30), (1, .int v29), (0, .ref 115), (2, .int x2)]) kc_66_54 rfl rfl ev30 rfl (xm_lt ml_66 rfl) ?_
                refine xi_goto (pc' := 12) kc_66_57 rfl ?_
                refine xw_lv (b := [(0, .ref 115), (1, .int v29), (2, .int x2), (3, .int v30)]) (lvS_cons (lvS_cons (lvS_cons (lvS_cons (lvS_nil (show ([3, 1, 0, 2] : List Nat).Nodup by decide)) rfl) rfl) rfl) rfl) ?_
                have ff0 : (yd.getD (Int32.toNatClampNeg x2) 0).toInt = v17.toInt := by rw [ev17]
                have ff1 : (yd.getD (Int32.toNatClampNeg x3) 0).toInt = v19.toInt := by rw [ev19]
                have ff2 : (ys.getD (Int32.toNatClampNeg x2) 0).toInt = v21.toInt := by rw [ev21]
                have ff3 : (ys.getD (Int32.toNatClampNeg x3) 0).toInt = v22.toInt := by rw [ev22]
                have ff4 : (yf.getD (Int32.toNatClampNeg x2) 0).toInt = v24.toInt := by rw [ev24]
                have ff5 : (yf.getD (Int32.toNatClampNeg x3) 0).toInt = v25.toInt := by rw [ev25]
                exact i1 v29 x2 v30 (by omega) (by omega) (xj_yes (by unfold xjp; omega) hE ev29 (by omega) (by omega)) (by omega)
              · refine xi_cmf (pc' := 39) kc_67_36 rfl (xc_eq_f (X := (v24.toInt + (-1) * v25.toInt)) (Y := 1) zv26 (by decide) (by omega)) ?_
                refine xi_iload (pc' := 41) (x := v26) kc_67_39 rfl rfl ?_
                refine xi_iconst (pc' := 42) (v := (-1)) kc_67_41 rfl rfl ?_
                by_cases c31 : (v24.toInt + (-1) * v25.toInt) = (-1)
                · refine xi_cmt (pc' := 60) kc_67_42 rfl (xc_eq_t (X := (v24.toInt + (-1) * v25.toInt)) (Y := (-1)) zv26 (by decide) (by omega)) ?_
                  refine xi_iconst (pc' := 61) (v := 1) kc_67_60 rfl rfl ?_
                  refine xi_goto (pc' := 65) kc_67_61 rfl ?_
                  refine xi_ireturn kc_67_65 mr_67 rfl ?_
                  show xw J ov (d + 4) 66 (44, [(0, .ref 115), (1, .int x1), (2, .int x2), (3, .int x3)], [.int 1, .int x1], h) _
                  refine xi_iff (pc' := 47) kc_66_44 rfl rfl ?_
                  refine xi_iconst (pc' := 48) (v := 1) kc_66_47 rfl rfl ?_
                  refine xi_goto (pc' := 52) kc_66_48 rfl ?_
                  obtain ⟨v32, ev32⟩ : ∃ q : Int32, (x1 : Int32) + 1 = q := ⟨_, rfl⟩
                  have rv32 := xc_rng v32
                  refine xi_iadd (pc' := 53) (v := v32) kc_66_52 rfl ev32 ?_
                  refine xi_istore_n (pc' := 54) (lv' := [(1, .int v32), (0, .ref 115), (2, .int x2), (3, .int x3)]) kc_66_53 rfl rfl (xm_lt ml_66 rfl) ?_
                  obtain ⟨v33, ev33⟩ : ∃ q : Int32, x3 + 1 = q := ⟨_, rfl⟩
                  have zv33 : v33.toInt = (x3.toInt + 1) := by rw [← ev33]; exact (xz_add (X := x3.toInt) (Y := 1) rfl (by decide) (by omega) (by omega)).trans (by omega)
                  refine xi_iinc (pc' := 57) (x := x3) (v := v33) (lv' := [(3, .int v33), (1, .int v32), (0, .ref 115), (2, .int x2)]) kc_66_54 rfl rfl ev33 rfl (xm_lt ml_66 rfl) ?_
                  refine xi_goto (pc' := 12) kc_66_57 rfl ?_
                  refine xw_lv (b := [(0, .ref 115), (1, .int v32), (2, .int x2), (3, .int v33)]) (lvS_cons (lvS_cons (lvS_cons (lvS_cons (lvS_nil (show ([3, 1, 0, 2] : List Nat).Nodup by decide)) rfl) rfl) rfl) rfl) ?_
                  have ff0 : (yd.getD (Int32.toNatClampNeg x2) 0).toInt = v17.toInt := by rw [ev17]
                  have ff1 : (yd.getD (Int32.toNatClampNeg x3) 0).toInt = v19.toInt := by rw [ev19]
                  have ff2 : (ys.getD (Int32.toNatClampNeg x2) 0).toInt = v21.toInt := by rw [ev21]
                  have ff3 : (ys.getD (Int32.toNatClampNeg x3) 0).toInt = v22.toInt := by rw [ev22]
                  have ff4 : (yf.getD (Int32.toNatClampNeg x2) 0).toInt = v24.toInt := by rw [ev24]
                  have ff5 : (yf.getD (Int32.toNatClampNeg x3) 0).toInt = v25.toInt := by rw [ev25]
                  exact i1 v32 x2 v33 (by omega) (by omega) (xj_yes (by unfold xjp; omega) hE ev32 (by omega) (by omega)) (by omega)
                · refine xi_cmf (pc' := 45) kc_67_42 rfl (xc_eq_f (X := (v24.toInt + (-1) * v25.toInt)) (Y := (-1)) zv26 (by decide) (by omega)) ?_
                  refine xi_iload (pc' := 47) (x := v26) kc_67_45 rfl rfl ?_
                  by_cases c34 : (v24.toInt + (-1) * v25.toInt) = 0
                  · refine xi_iff (pc' := 50) kc_67_47 rfl (xc_ne_f (X := (v24.toInt + (-1) * v25.toInt)) (Y := 0) zv26 (by decide) (by omega)) ?_
                    refine xi_iload_n (pc' := 51) (x := v23) kc_67_50 rfl rfl ?_
                    refine xi_iconst (pc' := 52) (v := 1) kc_67_51 rfl rfl ?_
                    refine xi_cmf (pc' := 55) kc_67_52 rfl (xc_eq_f (X := (v21.toInt + (-1) * v22.toInt)) (Y := 1) zv23 (by decide) (by omega)) ?_
                    refine xi_iload_n (pc' := 56) (x := v23) kc_67_55 rfl rfl ?_
                    refine xi_iconst (pc' := 57) (v := (-1)) kc_67_56 rfl rfl ?_
                    refine xi_cmt (pc' := 64) kc_67_57 rfl (xc_ne_t (X := (v21.toInt + (-1) * v22.toInt)) (Y := (-1)) zv23 (by decide) (by omega)) ?_
                    refine xi_iconst (pc' := 65) (v := 0) kc_67_64 rfl rfl ?_
                    refine xi_ireturn kc_67_65 mr_67 rfl ?_
                    show xw J ov (d + 4) 66 (44, [(0, .ref 115), (1, .int x1), (2, .int x2), (3, .int x3)], [.int 0, .int x1], h) _
                    refine xi_ift (pc' := 51) kc_66_44 rfl rfl ?_
                    refine xi_iconst (pc' := 52) (v := 0) kc_66_51 rfl rfl ?_
                    obtain ⟨v35, ev35⟩ : ∃ q : Int32, x1 + 0 = q := ⟨_, rfl⟩
                    have zv35 : v35.toInt = x1.toInt := by rw [← ev35]; exact (xz_add (X := x1.toInt) (Y := 0) rfl (by decide) (by omega) (by omega)).trans (by omega)
                    refine xi_iadd (pc' := 53) (v := v35) kc_66_52 rfl ev35 ?_
                    refine xi_istore_n (pc' := 54) (lv' := [(1, .int v35), (0, .ref 115), (2, .int x2), (3, .int x3)]) kc_66_53 rfl rfl (xm_lt ml_66 rfl) ?_
                    obtain ⟨v36, ev36⟩ : ∃ q : Int32, x3 + 1 = q := ⟨_, rfl⟩
                    have zv36 : v36.toInt = (x3.toInt + 1) := by rw [← ev36]; exact (xz_add (X := x3.toInt) (Y := 1) rfl (by decide) (by omega) (by omega)).trans (by omega)
                    refine xi_iinc (pc' := 57) (x := x3) (v := v36) (lv' := [(3, .int v36), (1, .int v35), (0, .ref 115), (2, .int x2)]) kc_66_54 rfl rfl ev36 rfl (xm_lt ml_66 rfl) ?_
                    refine xi_goto (pc' := 12) kc_66_57 rfl ?_
                    refine xw_lv (b := [(0, .ref 115), (1, .int v35), (2, .int x2), (3, .int v36)]) (lvS_cons (lvS_cons (lvS_cons (lvS_cons (lvS_nil (show ([3, 1, 0, 2] : List Nat).Nodup by decide)) rfl) rfl) rfl) rfl) ?_
                    have ff0 : (yd.getD (Int32.toNatClampNeg x2) 0).toInt = v17.toInt := by rw [ev17]
                    have ff1 : (yd.getD (Int32.toNatClampNeg x3) 0).toInt = v19.toInt := by rw [ev19]
                    have ff2 : (ys.getD (Int32.toNatClampNeg x2) 0).toInt = v21.toInt := by rw [ev21]
                    have ff3 : (ys.getD (Int32.toNatClampNeg x3) 0).toInt = v22.toInt := by rw [ev22]
                    have ff4 : (yf.getD (Int32.toNatClampNeg x2) 0).toInt = v24.toInt := by rw [ev24]
                    have ff5 : (yf.getD (Int32.toNatClampNeg x3) 0).toInt = v25.toInt := by rw [ev25]
                    exact i1 v35 x2 v36 (by omega) (by omega) (xj_no0 (by unfold xjp; omega) hE ev35 (by omega) (by omega)) (by omega)
                  · refine xi_ift (pc' := 64) kc_67_47 rfl (xc_ne_t (X := (v24.toInt + (-1) * v25.toInt)) (Y := 0) zv26 (by decide) (by omega)) ?_
                    refine xi_iconst (pc' := 65) (v := 0) kc_67_64 rfl rfl ?_
                    refine xi_ireturn kc_67_65 mr_67 rfl ?_
                    show xw J ov (d + 4) 66 (44, [(0, .ref 115), (1, .int x1), (2, .int x2), (3, .int x3)], [.int 0, .int x1], h) _
                    refine xi_ift (pc' := 51) kc_66_44 rfl rfl ?_
                    refine xi_iconst (pc' := 52) (v := 0) kc_66_51 rfl rfl ?_
                    obtain ⟨v37, ev37⟩ : ∃ q : Int32, x1 + 0 = q := ⟨_, rfl⟩
                    have zv37 : v37.toInt = x1.toInt := by rw [← ev37]; exact (xz_add (X := x1.toInt) (Y := 0) rfl (by decide) (by omega) (by omega)).trans (by omega)
                    refine xi_iadd (pc' := 53) (v := v37) kc_66_52 rfl ev37 ?_
                    refine xi_istore_n (pc' := 54) (lv' := [(1, .int v37), (0, .ref 115), (2, .int x2), (3, .int x3)]) kc_66_53 rfl rfl (xm_lt ml_66 rfl) ?_
                    obtain ⟨v38, ev38⟩ : ∃ q : Int32, x3 + 1 = q := ⟨_, rfl⟩
                    have zv38 : v38.toInt = (x3.toInt + 1) := by rw [← ev38]; exact (xz_add (X := x3.toInt) (Y := 1) rfl (by decide) (by omega) (by omega)).trans (by omega)
                    refine xi_iinc (pc' := 57) (x := x3) (v := v38) (lv' := [(3, .int v38), (1, .int v37), (0, .ref 115), (2, .int x2)]) kc_66_54 rfl rfl ev38 rfl (xm_lt ml_66 rfl) ?_
                    refine xi_goto (pc' := 12) kc_66_57 rfl ?_
                    refine xw_lv (b := [(0, .ref 115), (1, .int v37), (2, .int x2), (3, .int v38)]) (lvS_cons (lvS_cons (lvS_cons (lvS_cons (lvS_nil (show ([3, 1, 0, 2] : List Nat).Nodup by decide)) rfl) rfl) rfl) rfl) ?_
                    have ff0 : (yd.getD (Int32.toNatClampNeg x2) 0).toInt = v17.toInt := by rw [ev17]
                    have ff1 : (yd.getD (Int32.toNatClampNeg x3) 0).toInt = v19.toInt := by rw [ev19]
                    have ff2 : (ys.getD (Int32.toNatClampNeg x2) 0).toInt = v21.toInt := by rw [ev21]
                    have ff3 : (ys.getD (Int32.toNatClampNeg x3) 0).toInt = v22.toInt := by rw [ev22]
                    have ff4 : (yf.getD (Int32.toNatClampNeg x2) 0).toInt = v24.toInt := by rw [ev24]
                    have ff5 : (yf.getD (Int32.toNatClampNeg x3) 0).toInt = v25.toInt := by rw [ev25]
                    exact i1 v37 x2 v38 (by omega) (by omega) (xj_no0 (by unfold xjp; omega) hE ev37 (by omega) (by omega)) (by omega)
            · refine xi_ift (pc' := 45) kc_67_30 rfl (xc_ne_t (X := (v21.toInt + (-1) * v22.toInt)) (Y := 0) zv23 (by decide) (by omega)) ?_
              refine xi_iload (pc' := 47) (x := v26) kc_67_45 rfl rfl ?_
              by_cases c39 : (v24.toInt + (-1) * v25.toInt) = 0
              · refine xi_iff (pc' := 50) kc_67_47 rfl (xc_ne_f (X := (v24.toInt + (-1) * v25.toInt)) (Y := 0) zv26 (by decide) (by omega)) ?_
                refine xi_iload_n (pc' := 51) (x := v23) kc_67_50 rfl rfl ?_
                refine xi_iconst (pc' := 52) (v := 1) kc_67_51 rfl rfl ?_
                by_cases c40 : (v21.toInt + (-1) * v22.toInt) = 1
                · refine xi_cmt (pc' := 60) kc_67_52 rfl (xc_eq_t (X := (v21.toInt + (-1) * v22.toInt)) (Y := 1) zv23 (by decide) (by omega)) ?_
                  refine xi_iconst (pc' := 61) (v := 1) kc_67_60 rfl rfl ?_
                  refine xi_goto (pc' := 65) kc_67_61 rfl ?_
                  refine xi_ireturn kc_67_65 mr_67 rfl ?_
                  show xw J ov (d + 4) 66 (44, [(0, .ref 115), (1, .int x1), (2, .int x2), (3, .int x3)], [.int 1, .int x1], h) _
                  refine xi_iff (pc' := 47) kc_66_44 rfl rfl ?_
                  refine xi_iconst (pc' := 48) (v := 1) kc_66_47 rfl rfl ?_
                  refine xi_goto (pc' := 52) kc_66_48 rfl ?_
                  obtain ⟨v41, ev41⟩ : ∃ q : Int32, (x1 : Int32) + 1 = q := ⟨_, rfl⟩
                  have rv41 := xc_rng v41
                  refine xi_iadd (pc' := 53) (v := v41) kc_66_52 rfl ev41 ?_
                  refine xi_istore_n (pc' := 54) (lv' := [(1, .int v41), (0, .ref 115), (2, .int x2), (3, .int x3)]) kc_66_53 rfl rfl (xm_lt ml_66 rfl) ?_
                  obtain ⟨v42, ev42⟩ : ∃ q : Int32, x3 + 1 = q := ⟨_, rfl⟩
                  have zv42 : v42.toInt = (x3.toInt + 1) := by rw [← ev42]; exact (xz_add (X := x3.toInt) (Y := 1) rfl (by decide) (by omega) (by omega)).trans (by omega)
                  refine xi_iinc (pc' := 57) (x := x3) (v := v42) (lv' := [(3, .int v42), (1, .int v41), (0, .ref 115), (2, .int x2)]) kc_66_54 rfl rfl ev42 rfl (xm_lt ml_66 rfl) ?_
                  refine xi_goto (pc' := 12) kc_66_57 rfl ?_
                  refine xw_lv (b := [(0, .ref 115), (1, .int v41), (2, .int x2), (3, .int v42)]) (lvS_cons (lvS_cons (lvS_cons (lvS_cons (lvS_nil (show ([3, 1, 0, 2] : List Nat).Nodup by decide)) rfl) rfl) rfl) rfl) ?_
                  have ff0 : (yd.getD (Int32.toNatClampNeg x2) 0).toInt = v17.toInt := by rw [ev17]
                  have ff1 : (yd.getD (Int32.toNatClampNeg x3) 0).toInt = v19.toInt := by rw [ev19]
                  have ff2 : (ys.getD (Int32.toNatClampNeg x2) 0).toInt = v21.toInt := by rw [ev21]
                  have ff3 : (ys.getD (Int32.toNatClampNeg x3) 0).toInt = v22.toInt := by rw [ev22]
                  have ff4 : (yf.getD (Int32.toNatClampNeg x2) 0).toInt = v24.toInt := by rw [ev24]
                  have ff5 : (yf.getD (Int32.toNatClampNeg x3) 0).toInt = v25.toInt := by rw [ev25]
                  exact i1 v41 x2 v42 (by omega) (by omega) (xj_yes (by unfold xjp; omega) hE ev41 (by omega) (by omega)) (by omega)
                · refine xi_cmf (pc' := 55) kc_67_52 rfl (xc_eq_f (X := (v21.toInt + (-1) * v22.toInt)) (Y := 1) zv23 (by decide) (by omega)) ?_
                  refine xi_iload_n (pc' := 56) (x := v23) kc_67_55 rfl rfl ?_
                  refine xi_iconst (pc' := 57) (v := (-1)) kc_67_56 rfl rfl ?_
                  by_cases c43 : (v21.toInt + (-1) * v22.toInt) = (-1)
                  · refine xi_cmf (pc' := 60) kc_67_57 rfl (xc_ne_f (X := (v21.toInt + (-1) * v22.toInt)) (Y := (-1)) zv23 (by decide) (by omega)) ?_
                    refine xi_iconst (pc' := 61) (v := 1) kc_67_60 rfl rfl ?_
                    refine xi_goto (pc' := 65) kc_67_61 rfl ?_
                    refine xi_ireturn kc_67_65 mr_67 rfl ?_
                    show xw J ov (d + 4) 66 (44, [(0, .ref 115), (1, .int x1), (2, .int x2), (3, .int x3)], [.int 1, .int x1], h) _
                    refine xi_iff (pc' := 47) kc_66_44 rfl rfl ?_
                    refine xi_iconst (pc' := 48) (v := 1) kc_66_47 rfl rfl ?_
                    refine xi_goto (pc' := 52) kc_66_48 rfl ?_
                    obtain ⟨v44, ev44⟩ : ∃ q : Int32, (x1 : Int32) + 1 = q := ⟨_, rfl⟩
                    have rv44 := xc_rng v44
                    refine xi_iadd (pc' := 53) (v := v44) kc_66_52 rfl ev44 ?_
                    refine xi_istore_n (pc' := 54) (lv' := [(1, .int v44), (0, .ref 115), (2, .int x2), (3, .int x3)]) kc_66_53 rfl rfl (xm_lt ml_66 rfl) ?_
                    obtain ⟨v45, ev45⟩ : ∃ q : Int32, x3 + 1 = q := ⟨_, rfl⟩
                    have zv45 : v45.toInt = (x3.toInt + 1) := by rw [← ev45]; exact (xz_add (X := x3.toInt) (Y := 1) rfl (by decide) (by omega) (by omega)).trans (by omega)
                    refine xi_iinc (pc' := 57) (x := x3) (v := v45) (lv' := [(3, .int v45), (1, .int v44), (0, .ref 115), (2, .int x2)]) kc_66_54 rfl rfl ev45 rfl (xm_lt ml_66 rfl) ?_
                    refine xi_goto (pc' := 12) kc_66_57 rfl ?_
                    refine xw_lv (b := [(0, .ref 115), (1, .int v44), (2, .int x2), (3, .int v45)]) (lvS_cons (lvS_cons (lvS_cons (lvS_cons (lvS_nil (show ([3, 1, 0, 2] : List Nat).Nodup by decide)) rfl) rfl) rfl) rfl) ?_
                    have ff0 : (yd.getD (Int32.toNatClampNeg x2) 0).toInt = v17.toInt := by rw [ev17]
                    have ff1 : (yd.getD (Int32.toNatClampNeg x3) 0).toInt = v19.toInt := by rw [ev19]
                    have ff2 : (ys.getD (Int32.toNatClampNeg x2) 0).toInt = v21.toInt := by rw [ev21]
                    have ff3 : (ys.getD (Int32.toNatClampNeg x3) 0).toInt = v22.toInt := by rw [ev22]
                    have ff4 : (yf.getD (Int32.toNatClampNeg x2) 0).toInt = v24.toInt := by rw [ev24]
                    have ff5 : (yf.getD (Int32.toNatClampNeg x3) 0).toInt = v25.toInt := by rw [ev25]
                    exact i1 v44 x2 v45 (by omega) (by omega) (xj_yes (by unfold xjp; omega) hE ev44 (by omega) (by omega)) (by omega)
                  · refine xi_cmt (pc' := 64) kc_67_57 rfl (xc_ne_t (X := (v21.toInt + (-1) * v22.toInt)) (Y := (-1)) zv23 (by decide) (by omega)) ?_
                    refine xi_iconst (pc' := 65) (v := 0) kc_67_64 rfl rfl ?_
                    refine xi_ireturn kc_67_65 mr_67 rfl ?_
                    show xw J ov (d + 4) 66 (44, [(0, .ref 115), (1, .int x1), (2, .int x2), (3, .int x3)], [.int 0, .int x1], h) _
                    refine xi_ift (pc' := 51) kc_66_44 rfl rfl ?_
                    refine xi_iconst (pc' := 52) (v := 0) kc_66_51 rfl rfl ?_
                    obtain ⟨v46, ev46⟩ : ∃ q : Int32, x1 + 0 = q := ⟨_, rfl⟩
                    have zv46 : v46.toInt = x1.toInt := by rw [← ev46]; exact (xz_add (X := x1.toInt) (Y := 0) rfl (by decide) (by omega) (by omega)).trans (by omega)
                    refine xi_iadd (pc' := 53) (v := v46) kc_66_52 rfl ev46 ?_
                    refine xi_istore_n (pc' := 54) (lv' := [(1, .int v46), (0, .ref 115), (2, .int x2), (3, .int x3)]) kc_66_53 rfl rfl (xm_lt ml_66 rfl) ?_
                    obtain ⟨v47, ev47⟩ : ∃ q : Int32, x3 + 1 = q := ⟨_, rfl⟩
                    have zv47 : v47.toInt = (x3.toInt + 1) := by rw [← ev47]; exact (xz_add (X := x3.toInt) (Y := 1) rfl (by decide) (by omega) (by omega)).trans (by omega)
                    refine xi_iinc (pc' := 57) (x := x3) (v := v47) (lv' := [(3, .int v47), (1, .int v46), (0, .ref 115), (2, .int x2)]) kc_66_54 rfl rfl ev47 rfl (xm_lt ml_66 rfl) ?_
                    refine xi_goto (pc' := 12) kc_66_57 rfl ?_
                    refine xw_lv (b := [(0, .ref 115), (1, .int v46), (2, .int x2), (3, .int v47)]) (lvS_cons (lvS_cons (lvS_cons (lvS_cons (lvS_nil (show ([3, 1, 0, 2] : List Nat).Nodup by decide)) rfl) rfl) rfl) rfl) ?_
                    have ff0 : (yd.getD (Int32.toNatClampNeg x2) 0).toInt = v17.toInt := by rw [ev17]
                    have ff1 : (yd.getD (Int32.toNatClampNeg x3) 0).toInt = v19.toInt := by rw [ev19]
                    have ff2 : (ys.getD (Int32.toNatClampNeg x2) 0).toInt = v21.toInt := by rw [ev21]
                    have ff3 : (ys.getD (Int32.toNatClampNeg x3) 0).toInt = v22.toInt := by rw [ev22]
                    have ff4 : (yf.getD (Int32.toNatClampNeg x2) 0).toInt = v24.toInt := by rw [ev24]
                    have ff5 : (yf.getD (Int32.toNatClampNeg x3) 0).toInt = v25.toInt := by rw [ev25]
                    exact i1 v46 x2 v47 (by omega) (by omega) (xj_no0 (by unfold xjp; omega) hE ev46 (by omega) (by omega)) (by omega)
              · refine xi_ift (pc' := 64) kc_67_47 rfl (xc_ne_t (X := (v24.toInt + (-1) * v25.toInt)) (Y := 0) zv26 (by decide) (by omega)) ?_
                refine xi_iconst (pc' := 65) (v := 0) kc_67_64 rfl rfl ?_
                refine xi_ireturn kc_67_65 mr_67 rfl ?_
                show xw J ov (d + 4) 66 (44, [(0, .ref 115), (1, .int x1), (2, .int x2), (3, .int x3)], [.int 0, .int x1], h) _
                refine xi_ift (pc' := 51) kc_66_44 rfl rfl ?_
                refine xi_iconst (pc' := 52) (v := 0) kc_66_51 rfl rfl ?_
                obtain ⟨v48, ev48⟩ : ∃ q : Int32, x1 + 0 = q := ⟨_, rfl⟩
                have zv48 : v48.toInt = x1.toInt := by rw [← ev48]; exact (xz_add (X := x1.toInt) (Y := 0) rfl (by decide) (by omega) (by omega)).trans (by omega)
                refine xi_iadd (pc' := 53) (v := v48) kc_66_52 rfl ev48 ?_
                refine xi_istore_n (pc' := 54) (lv' := [(1, .int v48), (0, .ref 115), (2, .int x2), (3, .int x3)]) kc_66_53 rfl rfl (xm_lt ml_66 rfl) ?_
                obtain ⟨v49, ev49⟩ : ∃ q : Int32, x3 + 1 = q := ⟨_, rfl⟩
                have zv49 : v49.toInt = (x3.toInt + 1) := by rw [← ev49]; exact (xz_add (X := x3.toInt) (Y := 1) rfl (by decide) (by omega) (by omega)).trans (by omega)
                refine xi_iinc (pc' := 57) (x := x3) (v := v49) (lv' := [(3, .int v49), (1, .int v48), (0, .ref 115), (2, .int x2)]) kc_66_54 rfl rfl ev49 rfl (xm_lt ml_66 rfl) ?_
                refine xi_goto (pc' := 12) kc_66_57 rfl ?_
                refine xw_lv (b := [(0, .ref 115), (1, .int v48), (2, .int x2), (3, .int v49)]) (lvS_cons (lvS_cons (lvS_cons (lvS_cons (lvS_nil (show ([3, 1, 0, 2] : List Nat).Nodup by decide)) rfl) rfl) rfl) rfl) ?_
                have ff0 : (yd.getD (Int32.toNatClampNeg x2) 0).toInt = v17.toInt := by rw [ev17]
                have ff1 : (yd.getD (Int32.toNatClampNeg x3) 0).toInt = v19.toInt := by rw [ev19]
                have ff2 : (ys.getD (Int32.toNatClampNeg x2) 0).toInt = v21.toInt := by rw [ev21]
                have ff3 : (ys.getD (Int32.toNatClampNeg x3) 0).toInt = v22.toInt := by rw [ev22]
                have ff4 : (yf.getD (Int32.toNatClampNeg x2) 0).toInt = v24.toInt := by rw [ev24]
                have ff5 : (yf.getD (Int32.toNatClampNeg x3) 0).toInt = v25.toInt := by rw [ev25]
                exact i1 v48 x2 v49 (by omega) (by omega) (xj_no0 (by unfold xjp; omega) hE ev48 (by omega) (by omega)) (by omega)
          · refine xi_cmt (pc' := 51) kc_66_35 rfl (xc_ne_t (X := v19.toInt) (Y := 1) rfl (by decide) (by omega)) ?_
            refine xi_iconst (pc' := 52) (v := 0) kc_66_51 rfl rfl ?_
            obtain ⟨v50, ev50⟩ : ∃ q : Int32, x1 + 0 = q := ⟨_, rfl⟩
            have zv50 : v50.toInt = x1.toInt := by rw [← ev50]; exact (xz_add (X := x1.toInt) (Y := 0) rfl (by decide) (by omega) (by omega)).trans (by omega)
            refine xi_iadd (pc' := 53) (v := v50) kc_66_52 rfl ev50 ?_
            refine xi_istore_n (pc' := 54) (lv' := [(1, .int v50), (0, .ref 115), (2, .int x2), (3, .int x3)]) kc_66_53 rfl rfl (xm_lt ml_66 rfl) ?_
            obtain ⟨v51, ev51⟩ : ∃ q : Int32, x3 + 1 = q := ⟨_, rfl⟩
            have zv51 : v51.toInt = (x3.toInt + 1) := by rw [← ev51]; exact (xz_add (X := x3.toInt) (Y := 1) rfl (by decide) (by omega) (by omega)).trans (by omega)
            refine xi_iinc (pc' := 57) (x := x3) (v := v51) (lv' := [(3, .int v51), (1, .int v50), (0, .ref 115), (2, .int x2)]) kc_66_54 rfl rfl ev51 rfl (xm_lt ml_66 rfl) ?_
            refine xi_goto (pc' := 12) kc_66_57 rfl ?_
            refine xw_lv (b := [(0, .ref 115), (1, .int v50), (2, .int x2), (3, .int v51)]) (lvS_cons (lvS_cons (lvS_cons (lvS_cons (lvS_nil (show ([3, 1, 0, 2] : List Nat).Nodup by decide)) rfl) rfl) rfl) rfl) ?_
            have ff0 : (yd.getD (Int32.toNatClampNeg x2) 0).toInt = v17.toInt := by rw [ev17]
            have ff1 : (yd.getD (Int32.toNatClampNeg x3) 0).toInt = v19.toInt := by rw [ev19]
            exact i1 v50 x2 v51 (by omega) (by omega) (xj_no0 (by unfold xjp; omega) hE ev50 (by omega) (by omega)) (by omega)
        · refine xi_cmt (pc' := 51) kc_66_25 rfl (xc_ne_t (X := v17.toInt) (Y := 1) rfl (by decide) (by omega)) ?_
          refine xi_iconst (pc' := 52) (v := 0) kc_66_51 rfl rfl ?_
          obtain ⟨v52, ev52⟩ : ∃ q : Int32, x1 + 0 = q := ⟨_, rfl⟩
          have zv52 : v52.toInt = x1.toInt := by rw [← ev52]; exact (xz_add (X := x1.toInt) (Y := 0) rfl (by decide) (by omega) (by omega)).trans (by omega)
          refine xi_iadd (pc' := 53) (v := v52) kc_66_52 rfl ev52 ?_
          refine xi_istore_n (pc' := 54) (lv' := [(1, .int v52), (0, .ref 115), (2, .int x2), (3, .int x3)]) kc_66_53 rfl rfl (xm_lt ml_66 rfl) ?_
          obtain ⟨v53, ev53⟩ : ∃ q : Int32, x3 + 1 = q := ⟨_, rfl⟩
          have zv53 : v53.toInt = (x3.toInt + 1) := by rw [← ev53]; exact (xz_add (X := x3.toInt) (Y := 1) rfl (by decide) (by omega) (by omega)).trans (by omega)
          refine xi_iinc (pc' := 57) (x := x3) (v := v53) (lv' := [(3, .int v53), (1, .int v52), (0, .ref 115), (2, .int x2)]) kc_66_54 rfl rfl ev53 rfl (xm_lt ml_66 rfl) ?_
          refine xi_goto (pc' := 12) kc_66_57 rfl ?_
          refine xw_lv (b := [(0, .ref 115), (1, .int v52), (2, .int x2), (3, .int v53)]) (lvS_cons (lvS_cons (lvS_cons (lvS_cons (lvS_nil (show ([3, 1, 0, 2] : List Nat).Nodup by decide)) rfl) rfl) rfl) rfl) ?_
          have ff0 : (yd.getD (Int32.toNatClampNeg x2) 0).toInt = v17.toInt := by rw [ev17]
          exact i1 v52 x2 v53 (by omega) (by omega) (xj_no0 (by unfold xjp; omega) hE ev52 (by omega) (by omega)) (by omega)
theorem jn_r {J : xe_J} {ov : List (List Int32)} (hJ : ∀ d mj as h, mj ≠ xe_loff → J d mj as h = none) (hov1 : ov[1]? = some [10, 0, 0, 0, 0, 0]) (hov2 : ov[2]? = some [99, 30, 50, 50, 1, 99999]) {d : Nat} {Q : Option Value → xe_H → Prop} {h : xe_H} (T : xt h) {ys : List Int32} {yf : List Int32} {yd : List Int32} (Ays : h[156]? = some (.inl (0, .inl ys))) (hys : ys.length = 24) (rys : ∀ i, i < 24 → 0 ≤ (ys.getD i 0).toInt ∧ (ys.getD i 0).toInt ≤ 3) (Ayf : h[157]? = some (.inl (0, .inl yf))) (hyf : yf.length = 24) (ryf : ∀ i, i < 24 → 0 ≤ (yf.getD i 0).toInt ∧ (yf.getD i 0).toInt ≤ 5) (Ayd : h[158]? = some (.inl (0, .inl yd))) (hyd : yd.length = 24) (ryd : ∀ i, i < 24 → 0 ≤ (yd.getD i 0).toInt ∧ (yd.getD i 0).toInt ≤ 2) {v : Int32} (hv : xjt (xjp ys yf yd) 24 = v) (kk : Q (some (.int v)) h) : xw J ov (d + 4) 66 (0, [(0, .ref 115)], [], h) Q := by
  subst hv
  have zc0 : (0 : Int32).toInt = 0 := by decide
  refine xi_iconst (pc' := 1) (v := 0) kc_66_0 rfl rfl ?_
  refine xi_istore_n (pc' := 2) (lv' := [(1, .int 0), (0, .ref 115)]) kc_66_1 rfl rfl (xm_lt ml_66 rfl) ?_
  refine xi_iconst (pc' := 3) (v := 0) kc_66_2 rfl rfl ?_
  refine xi_istore_n (pc' := 4) (lv' := [(2, .int 0), (1, .int 0), (0, .ref 115)]) kc_66_3 rfl rfl (xm_lt ml_66 rfl) ?_
  refine xw_lv (b := [(0, .ref 115), (1, .int 0), (2, .int 0)]) (lvS_cons (lvS_cons (lvS_cons (lvS_nil (show ([2, 1, 0] : List Nat).Nodup by decide)) rfl) rfl) rfl) ?_
  exact (jl_r hJ hov1 hov2 T Ays hys rys Ayf hyf ryf Ayd hyd ryd kk 651).1 0 0 (by omega) rfl (by omega)
