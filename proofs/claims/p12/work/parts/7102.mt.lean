set_option maxHeartbeats 4000000 in
theorem mt_128_1 {J : xe_J} {ov : List (List Int32)} (hJ : ∀ d mj as h, mj ≠ xe_loff → J d mj as h = none) (hov1 : ov[1]? = some [10, 0, 0, 0, 0, 0]) (hov2 : ov[2]? = some [99, 30, 50, 50, 1, 99999]) {d : Nat} {Q : Option Value → xe_H → Prop} {h : xe_H} {x2 : Int32} {x3 : Int32} {x4 : Int32} (T : xt h) (b2 : (0 ≤ x2.toInt ∧ x2.toInt ≤ 5)) (b3 : (0 ≤ x3.toInt ∧ x3.toInt ≤ 599)) (kk : (∀ h' : xe_H, xk [(0, 9), (115, 1), (83, 0), (29, 0), (31, 0), (33, 0), (35, 0), (37, 0), (39, 0), (41, 0), (43, 0), (45, 0), (47, 0), (49, 0), (51, 0), (125, 0), (66, 8), (115, 18), (71, 0), (132, 0)] h h' → Q none h')) : xw J ov (d + 3) 128 (0, [(0, .ref 1), (1, .ref 67), (2, .int x2), (3, .int x3), (4, .int x4)], [], h) Q := by
  have K : xk [(0, 9), (115, 1), (83, 0), (29, 0), (31, 0), (33, 0), (35, 0), (37, 0), (39, 0), (41, 0), (43, 0), (45, 0), (47, 0), (49, 0), (51, 0), (125, 0), (66, 8), (115, 18), (71, 0), (132, 0)] h h := xk_re T
  have rx4 := xc_rng x4
  refine xi_aload_n (pc' := 1) (x := 1) kc_128_0 rfl rfl ?_
  refine xp_1 K.1 (fun u1 u2 bu1 bu2 A3 => ?_)
  refine xi_getfield (pc' := 4) (v := .ref 2) kc_128_1 rfl rfl rfl A3 rfl ?_
  refine xi_iload_n (pc' := 5) (x := x2) kc_128_4 rfl rfl ?_
  have A4 := xk_ex K.1 xD_2
  obtain ⟨pt5, ept5, mpt5⟩ := xR_2 (i := x2) (by omega) (by omega)
  refine xj_aaload (pc' := 6) (b := pt5) kc_128_5 rfl A4 rfl (xi_in (n := 6) (by omega) (by omega)) ept5 ?_
  refine xi_astore (pc' := 8) (lv' := [(5, .ref pt5), (0, .ref 1), (1, .ref 67), (2, .int x2), (3, .int x3), (4, .int x4)]) kc_128_6 rfl rfl (xm_lt ml_128 rfl) ?_
  refine xi_aload_n (pc' := 9) (x := 67) kc_128_8 rfl rfl ?_
  refine xi_iload_n (pc' := 10) (x := x2) kc_128_9 rfl rfl ?_
  refine xi_aload (pc' := 12) (x := pt5) kc_128_10 rfl rfl ?_
  obtain ⟨pt6, pt7, mpt6, mpt7, A8⟩ := xg_room K.1 mpt5
  refine xi_getfield (pc' := 15) (v := .ref pt7) kc_128_12 rfl rfl rfl A8 rfl ?_
  refine xi_iload_n (pc' := 16) (x := x3) kc_128_15 rfl rfl ?_
  refine xi_bipush (pc' := 18) (v := 24) kc_128_16 rfl rfl ?_
  refine xi_static (mj := 3) (as := [.int x3, .int 24]) (st1 := [.ref pt7, .int x2, .ref 67]) (lv0 := [(0, .int x3), (1, .int 24)]) kc_128_18 rfl rfl (Nat.le_of_ble_eq_true rfl) rfl rfl (Nat.le_of_ble_eq_true rfl) (hJ _ _ _ _ (by decide)) (xm_le ml_3 rfl) rfl ?_
  refine xi_iload_n (pc' := 1) (x := x3) kc_3_0 rfl rfl ?_
  refine xi_iload_n (pc' := 2) (x := 24) kc_3_1 rfl rfl ?_
  refine xcps2 (α := Int32) (x3 - x3 / 24 * 24) (fun v9 ev9 => ?_)
  have dv9 : v9.toInt = x3.toInt % 24 := by rw [← ev9]; exact xz_reme (X := x3.toInt) (Y := 24) rfl (by decide) (by omega) (by decide)
  have bv9 : 0 ≤ v9.toInt ∧ v9.toInt ≤ 23 := by omega
  refine xi_irem (pc' := 3) (v := v9) kc_3_2 rfl ev9 (by decide) ?_
  refine xi_istore_n (pc' := 4) (lv' := [(2, .int v9), (0, .int x3), (1, .int 24)]) kc_3_3 rfl rfl (xm_lt ml_3 rfl) ?_
  refine xi_iload_n (pc' := 5) (x := x3) kc_3_4 rfl rfl ?_
  refine xi_iload_n (pc' := 6) (x := 24) kc_3_5 rfl rfl ?_
  refine xcps2 (α := Int32) ((x3 : Int32) ^^^ 24) (fun v10 ev10 => ?_)
  have rv10 := xc_rng v10
  have bv10 : 0 ≤ v10.toInt := by rw [← ev10]; exact xz_xor (by first | omega | decide) (by first | omega | decide)
  refine xi_ixor (pc' := 7) (v := v10) kc_3_6 rfl ev10 ?_
  refine xi_ift (pc' := 18) kc_3_7 rfl (xc_ge_t (X := v10.toInt) (Y := 0) rfl (by decide) (by omega)) ?_
  refine xi_iload_n (pc' := 19) (x := v9) kc_3_18 rfl rfl ?_
  refine xi_ireturn kc_3_19 mr_3 rfl ?_
  show xw J ov (d + 3) 128 (21, [(5, .ref pt5), (0, .ref 1), (1, .ref 67), (2, .int x2), (3, .int x3), (4, .int x4)], [.int v9, .ref pt7, .int x2, .ref 67], h) _
  refine xcps4 (xk_arr K.1 (xGD_room1 mpt7)) (fun y11 A11 hy11 ry11 => ?_)
  refine xcps4 (xj_get hy11 ry11 (i := v9) (by omega) (by omega)) (fun v12 ev12 bv12 dv12 => ?_)
  refine xi_iaload (pc' := 22) (v := v12) kc_128_21 rfl A11 (xk_lo mpt7 rfl) rfl (xi_in (by omega) (by rw [hy11]; omega)) ev12 ?_
  refine xp_67 K.1 (fun u13 u14 bu13 bu14 A15 => ?_)
  refine xi_virtual (mj := 127) (as := [.int x2, .int v12]) (st1 := []) (lv0 := [(0, .ref 67), (1, .int x2), (2, .int v12)]) kc_128_22 rfl rfl rfl rfl rfl A15 (Nat.le_of_ble_eq_true rfl) (hJ _ _ _ _ (by decide)) (xm_le ml_127 rfl) rfl ?_
  refine mt_127_1 hJ hov1 hov2 (d := d + 1) (x1 := x2) (x2 := v12) K.1 (fun hh17 K18 => ?_)
  have K19 := xk_tr K K18 rfl
  show xw J ov (d + 3) 128 (25, [(5, .ref pt5), (0, .ref 1), (1, .ref 67), (2, .int x2), (3, .int x3), (4, .int x4)], [], hh17) _
  refine xi_aload_n (pc' := 26) (x := 67) kc_128_25 rfl rfl ?_
  refine xp_67 K19.1 (fun u20 u21 bu20 bu21 A22 => ?_)
  refine xi_getfield (pc' := 29) (v := .ref 68) kc_128_26 rfl rfl rfl A22 rfl ?_
  refine xi_iload_n (pc' := 30) (x := x2) kc_128_29 rfl rfl ?_
  refine xcps4 (xk_arr K19.1 xD_68) (fun y23 A23 hy23 ry23 => ?_)
  refine xcps4 (xj_get hy23 ry23 (i := x2) (by omega) (by omega)) (fun v24 ev24 bv24 dv24 => ?_)
  refine xi_iaload (pc' := 31) (v := v24) kc_128_30 rfl A23 (by decide) rfl (xi_in (by omega) (by rw [hy23]; omega)) ev24 ?_
  refine xi_istore (pc' := 33) (lv' := [(6, .int v24), (5, .ref pt5), (0, .ref 1), (1, .ref 67), (2, .int x2), (3, .int x3), (4, .int x4)]) kc_128_31 rfl rfl (xm_lt ml_128 rfl) ?_
  refine xi_aload (pc' := 35) (x := pt5) kc_128_33 rfl rfl ?_
  obtain ⟨pt25, pt26, mpt25, mpt26, A27⟩ := xg_room K19.1 mpt5
  refine xi_getfield (pc' := 38) (v := .ref pt25) kc_128_35 rfl rfl rfl A27 rfl ?_
  refine xi_iconst (pc' := 39) (v := 0) kc_128_38 rfl rfl ?_
  refine xcps4 (xk_arr K19.1 (xGD_room0 mpt25)) (fun y28 A28 hy28 ry28 => ?_)
  refine xcps4 (xj_get hy28 ry28 (i := 0) (by decide) (by decide)) (fun v29 ev29 bv29 dv29 => ?_)
  refine xi_iaload (pc' := 40) (v := v29) kc_128_39 rfl A28 (xk_lo mpt25 rfl) rfl (xi_in (by decide) (by rw [hy28]; decide)) ev29 ?_
  refine xi_istore (pc' := 42) (lv' := [(7, .int v29), (6, .int v24), (5, .ref pt5), (0, .ref 1), (1, .ref 67), (2, .int x2), (3, .int x3), (4, .int x4)]) kc_128_40 rfl rfl (xm_lt ml_128 rfl) ?_
  refine xi_iload (pc' := 44) (x := v29) kc_128_42 rfl rfl ?_
  refine xi_iload (pc' := 46) (x := x4) kc_128_44 rfl rfl ?_
  refine xi_static (mj := 102) (as := [.int x4]) (st1 := [.int v29]) (lv0 := [(0, .int x4)]) kc_128_46 rfl rfl (Nat.le_of_ble_eq_true rfl) rfl rfl (Nat.le_of_ble_eq_true rfl) (hJ _ _ _ _ (by decide)) (xm_le ml_102 rfl) rfl ?_
  refine mt_102_0 hJ hov1 hov2 (d := d) (x0 := x4) K19.1 (fun r30 hh31 br30 K32 => ?_)
  have K33 := xk_tr K19 K32 rfl
  show xw J ov (d + 3) 128 (49, [(7, .int v29), (6, .int v24), (5, .ref pt5), (0, .ref 1), (1, .ref 67), (2, .int x2), (3, .int x3), (4, .int x4)], [.int r30, .int v29], hh31) _
  refine xcps2 (α := Int32) ((v29 : Int32) * r30) (fun v34 ev34 => ?_)
  have rv34 := xc_rng v34
  refine xi_imul (pc' := 50) (v := v34) kc_128_49 rfl ev34 ?_
  refine xi_iconst (pc' := 51) (v := 2) kc_128_50 rfl rfl ?_
  refine xcps2 (α := Int32) (v34 / 2) (fun v35 ev35 => ?_)
  have dv35 : 2 * v35.toInt ≤ v34.toInt + 1 ∧ v34.toInt ≤ 2 * v35.toInt + 1 := by rw [← ev35]; exact xz_div (X := v34.toInt) (Y := 2) rfl (by decide) (by decide)
  have bv35 : -1073741825 ≤ v35.toInt ∧ v35.toInt ≤ 1073741824 := by omega
  refine xi_idiv (pc' := 52) (v := v35) kc_128_51 rfl ev35 (by decide) ?_
  refine xi_istore (pc' := 54) (lv' := [(8, .int v35), (7, .int v29), (6, .int v24), (5, .ref pt5), (0, .ref 1), (1, .ref 67), (2, .int x2), (3, .int x3), (4, .int x4)]) kc_128_52 rfl rfl (xm_lt ml_128 rfl) ?_
  refine xi_iload (pc' := 56) (x := v24) kc_128_54 rfl rfl ?_
  refine xi_iload (pc' := 58) (x := v24) kc_128_56 rfl rfl ?_
  refine xi_iload (pc' := 60) (x := v35) kc_128_58 rfl rfl ?_
  refine xcps2 (α := Int32) ((v24 : Int32) - v35) (fun v36 ev36 => ?_)
  have rv36 := xc_rng v36
  refine xi_isub (pc' := 61) (v := v36) kc_128_60 rfl ev36 ?_
  refine xi_aload (pc' := 63) (x := pt5) kc_128_61 rfl rfl ?_
  obtain ⟨pt37, pt38, mpt37, mpt38, A39⟩ := xg_room K33.1 mpt5
  refine xi_virtual (mj := 129) (as := []) (st1 := [.int v36, .int v24]) (lv0 := [(0, .ref pt5)]) kc_128_63 rfl rfl rfl rfl rfl A39 (Nat.le_of_ble_eq_true rfl) (hJ _ _ _ _ (by decide)) (xm_le ml_129 rfl) rfl ?_
  refine mt_129_0 hJ hov1 hov2 (d := d + 1) (p0 := pt5) K33.1 mpt5 (fun r40 hh41 K42 => ?_)
  have br40 := xc_rng r40
  have K43 := xk_tr K33 K42 rfl
  show xw J ov (d + 3) 128 (66, [(8, .int v35), (7, .int v29), (6, .int v24), (5, .ref pt5), (0, .ref 1), (1, .ref 67), (2, .int x2), (3, .int x3), (4, .int x4)], [.int r40, .int v36, .int v24], hh41) _
  refine xcps2 (α := Int32) ((v36 : Int32) * r40) (fun v44 ev44 => ?_)
  have rv44 := xc_rng v44
  refine xi_imul (pc' := 67) (v := v44) kc_128_66 rfl ev44 ?_
  refine xi_bipush (pc' := 69) (v := 100) kc_128_67 rfl rfl ?_
  refine xcps2 (α := Int32) (v44 / 100) (fun v45 ev45 => ?_)
  have dv45 : 100 * v45.toInt ≤ v44.toInt + 99 ∧ v44.toInt ≤ 100 * v45.toInt + 99 := by rw [← ev45]; exact xz_div (X := v44.toInt) (Y := 100) rfl (by decide) (by decide)
  have bv45 : -21474837 ≤ v45.toInt ∧ v45.toInt ≤ 21474837 := by omega
  refine xi_idiv (pc' := 70) (v := v45) kc_128_69 rfl ev45 (by decide) ?_
  refine xcps2 (α := Int32) ((v24 : Int32) - v45) (fun v46 ev46 => ?_)
  have rv46 := xc_rng v46
  refine xi_isub (pc' := 71) (v := v46) kc_128_70 rfl ev46 ?_
  refine xi_istore (pc' := 73) (lv' := [(6, .int v46), (8, .int v35), (7, .int v29), (5, .ref pt5), (0, .ref 1), (1, .ref 67), (2, .int x2), (3, .int x3), (4, .int x4)]) kc_128_71 rfl rfl (xm_lt ml_128 rfl) ?_
  refine xi_aload (pc' := 75) (x := pt5) kc_128_73 rfl rfl ?_
  obtain ⟨pt47, pt48, mpt47, mpt48, A49⟩ := xg_room K43.1 mpt5
  refine xi_getfield (pc' := 78) (v := .ref pt47) kc_128_75 rfl rfl rfl A49 rfl ?_
  refine xi_iconst (pc' := 79) (v := 1) kc_128_78 rfl rfl ?_
  refine xcps4 (xk_arr K43.1 (xGD_room0 mpt47)) (fun y50 A50 hy50 ry50 => ?_)
  refine xcps4 (xj_get hy50 ry50 (i := 1) (by decide) (by decide)) (fun v51 ev51 bv51 dv51 => ?_)
  refine xi_iaload (pc' := 80) (v := v51) kc_128_79 rfl A50 (xk_lo mpt47 rfl) rfl (xi_in (by decide) (by rw [hy50]; decide)) ev51 ?_
  refine xi_istore (pc' := 82) (lv' := [(9, .int v51), (6, .int v46), (8, .int v35), (7, .int v29), (5, .ref pt5), (0, .ref 1), (1, .ref 67), (2, .int x2), (3, .int x3), (4, .int x4)]) kc_128_80 rfl rfl (xm_lt ml_128 rfl) ?_
  refine xi_iload (pc' := 84) (x := v29) kc_128_82 rfl rfl ?_
  refine xi_iload (pc' := 86) (x := v51) kc_128_84 rfl rfl ?_
  refine xi_static (mj := 102) (as := [.int v51]) (st1 := [.int v29]) (lv0 := [(0, .int v51)]) kc_128_86 rfl rfl (Nat.le_of_ble_eq_true rfl) rfl rfl (Nat.le_of_ble_eq_true rfl) (hJ _ _ _ _ (by decide)) (xm_le ml_102 rfl) rfl ?_
  refine mt_102_0 hJ hov1 hov2 (d := d) (x0 := v51) K43.1 (fun r52 hh53 br52 K54 => ?_)
  have K55 := xk_tr K43 K54 rfl
  show xw J ov (d + 3) 128 (89, [(9, .int v51), (6, .int v46), (8, .int v35), (7, .int v29), (5, .ref pt5), (0, .ref 1), (1, .ref 67), (2, .int x2), (3, .int x3), (4, .int x4)], [.int r52, .int v29], hh53) _
  refine xcps2 (α := Int32) ((v29 : Int32) * r52) (fun v56 ev56 => ?_)
  have rv56 := xc_rng v56
  refine xi_imul (pc' := 90) (v := v56) kc_128_89 rfl ev56 ?_
  refine xi_istore (pc' := 92) (lv' := [(10, .int v56), (9, .int v51), (6, .int v46), (8, .int v35), (7, .int v29), (5, .ref pt5), (0, .ref 1), (1, .ref 67), (2, .int x2), (3, .int x3), (4, .int x4)]) kc_128_90 rfl rfl (xm_lt ml_128 rfl) ?_
  refine xi_iload (pc' := 94) (x := v46) kc_128_92 rfl rfl ?_
  refine xi_iload (pc' := 96) (x := v56) kc_128_94 rfl rfl ?_
  by_cases c57 : v46.toInt ≤ v56.toInt
  · refine xi_cmt (pc' := 119) kc_128_96 rfl (xc_le_t (X := v46.toInt) (Y := v56.toInt) rfl rfl (by omega)) ?_
    refine xi_aload_n (pc' := 120) (x := 67) kc_128_119 rfl rfl ?_
    refine xp_67 K55.1 (fun u58 u59 bu58 bu59 A60 => ?_)
    refine xi_getfield (pc' := 123) (v := .ref 68) kc_128_120 rfl rfl rfl A60 rfl ?_
    refine xi_iload_n (pc' := 124) (x := x2) kc_128_123 rfl rfl ?_
    refine xi_iload (pc' := 126) (x := v46) kc_128_124 rfl rfl ?_
    refine xcps4 (xk_arr K55.1 xD_68) (fun y61 A61 hy61 ry61 => ?_)
    refine xcps4 (xj_set (v := v46) hy61 ry61 x2 (by first | omega | decide) (by first | omega | decide)) (fun y62 s62 hy62 ry62 => ?_)
    refine xi_iastore (pc' := 127) (x' := y62) kc_128_126 rfl A61 rfl (xi_in (by omega) (by rw [hy61]; omega)) s62 (fun hh62 eh62 => ?_)
    have K63 := xk_pa K55 (xk_wa rfl) xD_68 hy62 ry62 eh62
    refine xi_return kc_128_127 mr_128 ?_
    exact kk hh62 K63
  · refine xi_cmf (pc' := 99) kc_128_96 rfl (xc_le_f (X := v46.toInt) (Y := v56.toInt) rfl rfl (by omega)) ?_
    refine xi_aload_n (pc' := 100) (x := 1) kc_128_99 rfl rfl ?_
    refine xi_aload_n (pc' := 101) (x := 67) kc_128_100 rfl rfl ?_
    refine xi_iload_n (pc' := 102) (x := x2) kc_128_101 rfl rfl ?_
    refine xi_iload (pc' := 104) (x := v46) kc_128_102 rfl rfl ?_
    refine xi_iload (pc' := 106) (x := v56) kc_128_104 rfl rfl ?_
    refine xcps2 (α := Int32) ((v46 : Int32) - v56) (fun v64 ev64 => ?_)
    have rv64 := xc_rng v64
    refine xi_isub (pc' := 107) (v := v64) kc_128_106 rfl ev64 ?_
    refine xi_iload (pc' := 109) (x := v51) kc_128_107 rfl rfl ?_
    refine xi_iload (pc' := 111) (x := x4) kc_128_109 rfl rfl ?_
    refine xcps2 (α := Int32) ((v51 : Int32) - x4) (fun v65 ev65 => ?_)
    have rv65 := xc_rng v65
    refine xi_isub (pc' := 112) (v := v65) kc_128_111 rfl ev65 ?_
    refine xp_1 K55.1 (fun u66 u67 bu66 bu67 A68 => ?_)
    refine xi_virtual (mj := 130) (as := [.ref 67, .int x2, .int v64, .int v65]) (st1 := []) (lv0 := [(0, .ref 1), (1, .ref 67), (2, .int x2), (3, .int v64), (4, .int v65)]) kc_128_112 rfl rfl rfl rfl rfl A68 (Nat.le_of_ble_eq_true rfl) (hJ _ _ _ _ (by decide)) (xm_le ml_130 rfl) rfl ?_
    refine mt_130_1 hJ hov1 hov2 (d := d) (x2 := x2) (x3 := v64) (x4 := v65) K55.1 (by first | omega | decide) (fun hh70 K71 => ?_)
    have K72 := xk_tr K55 K71 rfl
    show xw J ov (d + 3) 128 (115, [(10, .int v56), (9, .int v51), (6, .int v46), (8, .int v35), (7, .int v29), (5, .ref pt5), (0, .ref 1), (1, .ref 67), (2, .int x2), (3, .int x3), (4, .int x4)], [], hh70) _
    refine xi_iload (pc' := 117) (x := v56) kc_128_115 rfl rfl ?_
    refine xi_istore (pc' := 119) (lv' := [(6, .int v56), (10, .int v56), (9, .int v51), (8, .int v35), (7, .int v29), (5, .ref pt5), (0, .ref 1), (1, .ref 67), (2, .int x2), (3, .int x3), (4, .int x4)]) kc_128_117 rfl rfl (xm_lt ml_128 rfl) ?_
    refine xi_aload_n (pc' := 120) (x := 67) kc_128_119 rfl rfl ?_
    refine xp_67 K72.1 (fun u73 u74 bu73 bu74 A75 => ?_)
    refine xi_getfield (pc' := 123) (v := .ref 68) kc_128_120 rfl rfl rfl A75 rfl ?_
    refine xi_iload_n (pc' := 124) (x := x2) kc_128_123 rfl rfl ?_
    refine xi_iload (pc' := 126) (x := v56) kc_128_124 rfl rfl ?_
    refine xcps4 (xk_arr K72.1 xD_68) (fun y76 A76 hy76 ry76 => ?_)
    refine xcps4 (xj_set (v := v56) hy76 ry76 x2 (by first | omega | decide) (by first | omega | decide)) (fun y77 s77 hy77 ry77 => ?_)
    refine xi_iastore (pc' := 127) (x' := y77) kc_128_126 rfl A76 rfl (xi_in (by omega) (by rw [hy76]; omega)) s77 (fun hh77 eh77 => ?_)
    have K78 := xk_pa K72 (xk_wa rfl) xD_68 hy77 ry77 eh77
    refine xi_return kc_128_127 mr_128 ?_
    exact kk hh77 K78
set_option maxHeartbeats 4000000 in
theorem lp_132_1 {J : xe_J} {ov : List (List Int32)} (hJ : ∀ d mj as h, mj ≠ xe_loff → J d mj as h = none) (hov1 : ov[1]? = some [10, 0, 0, 0, 0, 0]) (hov2 : ov[2]? = some [99, 30, 50, 50, 1, 99999]) {d : Nat} {Q : Option Value → xe_H → Prop} {hb : xe_H} (kk : (∀ h' : xe_H, xk [(0, 9), (115, 1), (83, 0), (29, 0), (31, 0), (33, 0), (35, 0), (37, 0), (39, 0), (41, 0), (43, 0), (45, 0), (47, 0), (49, 0), (51, 0), (125, 0), (66, 8), (115, 18), (71, 0), (132, 0)] hb h' → Q none h')) : ∀ m : Nat, (∀ (x2 : Int32) (x3 : Int32) (h : xe_H), (0 ≤ x2.toInt ∧ x2.toInt ≤ 599) → (0 ≤ x3.toInt ∧ x3.toInt ≤ 10) → xk [(0, 9), (115, 1), (83, 0), (29, 0), (31, 0), (33, 0), (35, 0), (37, 0), (39, 0), (41, 0), (43, 0), (45, 0), (47, 0), (49, 0), (51, 0), (125, 0), (66, 8), (115, 18), (71, 0), (132, 0)] hb h → (-1) * x3.toInt + 10 < (m : Int) → xw J ov (d + 2) 132 (2, [(0, .ref 1), (1, .ref 67), (2, .int x2), (3, .int x3)], [], h) Q) := by
  intro m
  induction m with
  | zero =>
    intro x2 x3 h b2 b3 K hm; exfalso; omega
  | succ m ih =>
    have i0 := ih
    intro x2 x3 h b2 b3 K hm
    refine xi_iload_n (pc' := 3) (x := x3) kc_132_2 rfl rfl ?_
    refine xi_aload_n (pc' := 4) (x := 1) kc_132_3 rfl rfl ?_
    refine xp_1 K.1 (fun u1 u2 bu1 bu2 A3 => ?_)
    refine xi_getfield (pc' := 7) (v := .int u1) kc_132_4 rfl rfl rfl A3 rfl ?_
    by_cases c4 : u1.toInt ≤ x3.toInt
    · refine xi_cmt (pc' := 69) kc_132_7 rfl (xc_ge_t (X := x3.toInt) (Y := u1.toInt) rfl rfl (by omega)) ?_
      refine xi_return kc_132_69 mr_132 ?_
      exact kk h K
    · refine xi_cmf (pc' := 10) kc_132_7 rfl (xc_ge_f (X := x3.toInt) (Y := u1.toInt) rfl rfl (by omega)) ?_
      refine xi_iload_n (pc' := 11) (x := x3) kc_132_10 rfl rfl ?_
      refine xi_bipush (pc' := 13) (v := 10) kc_132_11 rfl rfl ?_
      refine xi_cmf (pc' := 16) kc_132_13 rfl (xc_ge_f (X := x3.toInt) (Y := 10) rfl (by decide) (by omega)) ?_
      refine xi_aload_n (pc' := 17) (x := 1) kc_132_16 rfl rfl ?_
      refine xi_getfield (pc' := 20) (v := .ref 4) kc_132_17 rfl rfl rfl A3 rfl ?_
      refine xi_iload_n (pc' := 21) (x := x3) kc_132_20 rfl rfl ?_
      have A5 := xk_ex K.1 xD_4
      obtain ⟨pt6, ept6, mpt6⟩ := xR_4 (i := x3) (by omega) (by omega)
      refine xj_aaload (pc' := 22) (b := pt6) kc_132_21 rfl A5 rfl (xi_in (n := 10) (by omega) (by omega)) ept6 ?_
      obtain ⟨u7, u8, u9, u10, bu7, bu8, bu9, bu10, A11⟩ := xg_cause K.1 mpt6
      refine xi_getfield (pc' := 25) (v := .int u7) kc_132_22 rfl rfl rfl A11 rfl ?_
      refine xi_iconst (pc' := 26) (v := 3) kc_132_25 rfl rfl ?_
      by_cases c12 : u7.toInt = 3
      · refine xi_cmt (pc' := 63) kc_132_26 rfl (xc_eq_t (X := u7.toInt) (Y := 3) rfl (by decide) (by omega)) ?_
        refine xcps2 (α := Int32) (x3 + 1) (fun v13 ev13 => ?_)
        have zv13 : v13.toInt = (x3.toInt + 1) := by rw [← ev13]; exact (xz_add (X := x3.toInt) (Y := 1) rfl (by decide) (by omega) (by omega)).trans (by omega)
        refine xi_iinc (pc' := 66) (x := x3) (v := v13) (lv' := [(3, .int v13), (0, .ref 1), (1, .ref 67), (2, .int x2)]) kc_132_63 rfl rfl ev13 rfl (xm_lt ml_132 rfl) ?_
        refine xi_goto (pc' := 2) kc_132_66 rfl ?_
        refine xw_lv (b := [(0, .ref 1), (1, .ref 67), (2, .int x2), (3, .int v13)]) (lvS_cons (lvS_cons (lvS_cons (lvS_cons (lvS_nil (show ([3, 0, 1, 2] : List Nat).Nodup by decide)) rfl) rfl) rfl) rfl) ?_
        exact i0 x2 v13 h (by omega) (by omega) K (by omega)
      · refine xi_cmf (pc' := 29) kc_132_26 rfl (xc_eq_f (X := u7.toInt) (Y := 3) rfl (by decide) (by omega)) ?_
        refine xi_aload_n (pc' := 30) (x := 1) kc_132_29 rfl rfl ?_
        refine xi_aload_n (pc' := 31) (x := 67) kc_132_30 rfl rfl ?_
        refine xi_iload_n (pc' := 32) (x := x3) kc_132_31 rfl rfl ?_
        refine xi_iload_n (pc' := 33) (x := x2) kc_132_32 rfl rfl ?_
        refine xi_virtual (mj := 126) (as := [.ref 67, .int x3, .int x2]) (st1 := []) (lv0 := [(0, .ref 1), (1, .ref 67), (2, .int x3), (3, .int x2)]) kc_132_33 rfl rfl rfl rfl rfl A3 (Nat.le_of_ble_eq_true rfl) (hJ _ _ _ _ (by decide)) (xm_le ml_126 rfl) rfl ?_
        refine mt_126_1 hJ hov1 hov2 (d := d) (x2 := x3) (x3 := x2) K.1 (by first | omega | decide) (by first | omega | decide) (fun r14 hh15 br14 K16 => ?_)
        have K17 := xk_tr K K16 rfl
        show xw J ov (d + 2) 132 (36, [(0, .ref 1), (1, .ref 67), (2, .int x2), (3, .int x3)], [.int r14], hh15) _
        by_cases c18 : r14.toInt = 0
        · refine xi_ift (pc' := 63) kc_132_36 rfl (xc_eq_t (X := r14.toInt) (Y := 0) rfl (by decide) (by omega)) ?_
          refine xcps2 (α := Int32) (x3 + 1) (fun v19 ev19 => ?_)
          have zv19 : v19.toInt = (x3.toInt + 1) := by rw [← ev19]; exact (xz_add (X := x3.toInt) (Y := 1) rfl (by decide) (by omega) (by omega)).trans (by omega)
          refine xi_iinc (pc' := 66) (x := x3) (v := v19) (lv' := [(3, .int v19), (0, .ref 1), (1, .ref 67), (2, .int x2)]) kc_132_63 rfl rfl ev19 rfl (xm_lt ml_132 rfl) ?_
          refine xi_goto (pc' := 2) kc_132_66 rfl ?_
          refine xw_lv (b := [(0, .ref 1), (1, .ref 67), (2, .int x2), (3, .int v19)]) (lvS_cons (lvS_cons (lvS_cons (lvS_cons (lvS_nil (show ([3, 0, 1, 2] : List Nat).Nodup by decide)) rfl) rfl) rfl) rfl) ?_
          exact i0 x2 v19 hh15 (by omega) (by omega) K17 (by omega)
        · refine xi_iff (pc' := 39) kc_132_36 rfl (xc_eq_f (X := r14.toInt) (Y := 0) rfl (by decide) (by omega)) ?_
          refine xi_aload_n (pc' := 40) (x := 67) kc_132_39 rfl rfl ?_
          refine xi_aload_n (pc' := 41) (x := 1) kc_132_40 rfl rfl ?_
          refine xp_1 K17.1 (fun u20 u21 bu20 bu21 A22 => ?_)
          refine xi_getfield (pc' := 44) (v := .ref 4) kc_132_41 rfl rfl rfl A22 rfl ?_
          refine xi_iload_n (pc' := 45) (x := x3) kc_132_44 rfl rfl ?_
          have A23 := xk_ex K17.1 xD_4
          refine xj_aaload (pc' := 46) (b := pt6) kc_132_45 rfl A23 rfl (xi_in (n := 10) (by omega) (by omega)) ept6 ?_
          obtain ⟨u24, u25, u26, u27, bu24, bu25, bu26, bu27, A28⟩ := xg_cause K17.1 mpt6
          refine xi_getfield (pc' := 49) (v := .int u25) kc_132_46 rfl rfl rfl A28 rfl ?_
          refine xi_aload_n (pc' := 50) (x := 1) kc_132_49 rfl rfl ?_
          refine xi_aload_n (pc' := 51) (x := 1) kc_132_50 rfl rfl ?_
          refine xi_getfield (pc' := 54) (v := .ref 4) kc_132_51 rfl rfl rfl A22 rfl ?_
          refine xi_iload_n (pc' := 55) (x := x3) kc_132_54 rfl rfl ?_
          refine xj_aaload (pc' := 56) (b := pt6) kc_132_55 rfl A23 rfl (xi_in (n := 10) (by omega) (by omega)) ept6 ?_
          refine xi_iload_n (pc' := 57) (x := x2) kc_132_56 rfl rfl ?_
          refine xi_virtual (mj := 133) (as := [.ref pt6, .int x2]) (st1 := [.int u25, .ref 67]) (lv0 := [(0, .ref 1), (1, .ref pt6), (2, .int x2)]) kc_132_57 rfl rfl rfl rfl rfl A22 (Nat.le_of_ble_eq_true rfl) (hJ _ _ _ _ (by decide)) (xm_le ml_133 rfl) rfl ?_
          refine mt_133_0 hJ hov1 hov2 (d := d) (p1 := pt6) (x2 := x2) K17.1 mpt6 (by first | omega | decide) (fun r29 hh30 K31 => ?_)
          have br29 := xc_rng r29
          have K32 := xk_tr K17 K31 rfl
          show xw J ov (d + 2) 132 (60, [(0, .ref 1), (1, .ref 67), (2, .int x2), (3, .int x3)], [.int r29, .int u25, .ref 67], hh30) _
          refine xp_67 K32.1 (fun u33 u34 bu33 bu34 A35 => ?_)
          refine xi_virtual (mj := 131) (as := [.int u25, .int r29]) (st1 := []) (lv0 := [(0, .ref 67), (1, .int u25), (2, .int r29)]) kc_132_60 rfl rfl rfl rfl rfl A35 (Nat.le_of_ble_eq_true rfl) (hJ _ _ _ _ (by decide)) (xm_le ml_131 rfl) rfl ?_
          refine mt_131_1 hJ hov1 hov2 (d := d) (x1 := u25) (x2 := r29) K32.1 (fun hh37 K38 => ?_)
          have K39 := xk_tr K32 K38 rfl
          show xw J ov (d + 2) 132 (63, [(0, .ref 1), (1, .ref 67), (2, .int x2), (3, .int x3)], [], hh37) _
          refine xcps2 (α := Int32) (x3 + 1) (fun v40 ev40 => ?_)
          have zv40 : v40.toInt = (x3.toInt + 1) := by rw [← ev40]; exact (xz_add (X := x3.toInt) (Y := 1) rfl (by decide) (by omega) (by omega)).trans (by omega)
          refine xi_iinc (pc' := 66) (x := x3) (v := v40) (lv' := [(3, .int v40), (0, .ref 1), (1, .ref 67), (2, .int x2)]) kc_132_63 rfl rfl ev40 rfl (xm_lt ml_132 rfl) ?_
          refine xi_goto (pc' := 2) kc_132_66 rfl ?_
          refine xw_lv (b := [(0, .ref 1), (1, .ref 67), (2, .int x2), (3, .int v40)]) (lvS_cons (lvS_cons (lvS_cons (lvS_cons (lvS_nil (show ([3, 0, 1, 2] : List Nat).Nodup by decide)) rfl) rfl) rfl) rfl) ?_
          exact i0 x2 v40 hh37 (by omega) (by omega) K39 (by omega)
set_option maxHeartbeats 4000000 in
theorem mt_132_1 {J : xe_J} {ov : List (List Int32)} (hJ : ∀ d mj as h, mj ≠ xe_loff → J d mj as h = none) (hov1 : ov[1]? = some [10, 0, 0, 0, 0, 0]) (hov2 : ov[2]? = some [99, 30, 50, 50, 1, 99999]) {d : Nat} {Q : Option Value → xe_H → Prop} {h : xe_H} {x2 : Int32} (T : xt h) (b2 : (0 ≤ x2.toInt ∧ x2.toInt ≤ 599)) (kk : (∀ h' : xe_H, xk [(0, 9), (115, 1), (83, 0), (29, 0), (31, 0), (33, 0), (35, 0), (37, 0), (39, 0), (41, 0), (43, 0), (45, 0), (47, 0), (49, 0), (51, 0), (125, 0), (66, 8), (115, 18), (71, 0), (132, 0)] h h' → Q none h')) : xw J ov (d + 2) 132 (0, [(0, .ref 1), (1, .ref 67), (2, .int x2)], [], h) Q := by
  have K : xk [(0, 9), (115, 1), (83, 0), (29, 0), (31, 0), (33, 0), (35, 0), (37, 0), (39, 0), (41, 0), (43, 0), (45, 0), (47, 0), (49, 0), (51, 0), (125, 0), (66, 8), (115, 18), (71, 0), (132, 0)] h h := xk_re T
  refine xi_iconst (pc' := 1) (v := 0) kc_132_0 rfl rfl ?_
  refine xi_istore_n (pc' := 2) (lv' := [(3, .int 0), (0, .ref 1), (1, .ref 67), (2, .int x2)]) kc_132_1 rfl rfl (xm_lt ml_132 rfl) ?_
  have zc0 : (0 : Int32).toInt = 0 := by decide
  refine xw_lv (b := [(0, .ref 1), (1, .ref 67), (2, .int x2), (3, .int 0)]) (lvS_cons (lvS_cons (lvS_cons (lvS_cons (lvS_nil (show ([3, 0, 1, 2] : List Nat).Nodup by decide)) rfl) rfl) rfl) rfl) ?_
  exact (lp_132_1 hJ hov1 hov2 (d := d) (hb := h) (fun h9 K9 => kk h9 (xk_tr K K9 rfl)) 11) x2 0 h (by omega) (by omega) (xk_re K.1) (by omega)
set_option maxHeartbeats 4000000 in
theorem lp_134_1 {J : xe_J} {ov : List (List Int32)} (hJ : ∀ d mj as h, mj ≠ xe_loff → J d mj as h = none) (hov1 : ov[1]? = some [10, 0, 0, 0, 0, 0]) (hov2 : ov[2]? = some [99, 30, 50, 50, 1, 99999]) {d : Nat} {Q : Option Value → xe_H → Prop} {hb : xe_H} (kk : (∀ h' : xe_H, xk [(0, 9), (115, 1), (83, 0), (29, 0), (31, 0), (33, 0), (35, 0), (37, 0), (39, 0), (41, 0), (43, 0), (45, 0), (47, 0), (49, 0), (51, 0), (125, 0), (66, 8), (115, 18), (71, 0), (132, 0)] hb h' → Q none h')) : ∀ m : Nat, (∀ (x2 : Int32) (h : xe_H), (0 ≤ x2.toInt ∧ x2.toInt ≤ 12) → xk [(0, 9), (115, 1), (83, 0), (29, 0), (31, 0), (33, 0), (35, 0), (37, 0), (39, 0), (41, 0), (43, 0), (45, 0), (47, 0), (49, 0), (51, 0), (125, 0), (66, 8), (115, 18), (71, 0), (132, 0)] hb h → (-1) * x2.toInt + 12 < (m : Int) → xw J ov (d + 1) 134 (2, [(0, .ref 1), (1, .ref 67), (2, .int x2)], [], h) Q) := by
  intro m
  induction m with
  | zero =>
    intro x2 h b2 K hm; exfalso; omega
  | succ m ih =>
    have i0 := ih
    intro x2 h b2 K hm
    refine xi_iload_n (pc' := 3) (x := x2) kc_134_2 rfl rfl ?_
    refine xi_bipush (pc' := 5) (v := 12) kc_134_3 rfl rfl ?_
    by_cases c1 : 12 ≤ x2.toInt
    · refine xi_cmt (pc' := 45) kc_134_5 rfl (xc_ge_t (X := x2.toInt) (Y := 12) rfl (by decide) (by omega)) ?_
      refine xi_return kc_134_45 mr_134 ?_
      exact kk h K
    · refine xi_cmf (pc' := 8) kc_134_5 rfl (xc_ge_f (X := x2.toInt) (Y := 12) rfl (by decide) (by omega)) ?_
      refine xi_aload_n (pc' := 9) (x := 67) kc_134_8 rfl rfl ?_
      refine xp_67 K.1 (fun u2 u3 bu2 bu3 A4 => ?_)
      refine xi_getfield (pc' := 12) (v := .ref 69) kc_134_9 rfl rfl rfl A4 rfl ?_
      refine xi_iload_n (pc' := 13) (x := x2) kc_134_12 rfl rfl ?_
      refine xcps4 (xk_arr K.1 xD_69) (fun y5 A5 hy5 ry5 => ?_)
      refine xcps4 (xj_get hy5 ry5 (i := x2) (by omega) (by omega)) (fun v6 ev6 bv6 dv6 => ?_)
      refine xi_iaload (pc' := 14) (v := v6) kc_134_13 rfl A5 (by decide) rfl (xi_in (by omega) (by rw [hy5]; omega)) ev6 ?_
      refine xi_istore_n (pc' := 15) (lv' := [(3, .int v6), (0, .ref 1), (1, .ref 67), (2, .int x2)]) kc_134_14 rfl rfl (xm_lt ml_134 rfl) ?_
      refine xi_iload_n (pc' := 16) (x := v6) kc_134_15 rfl rfl ?_
      by_cases c7 : v6.toInt ≤ 0
      · refine xi_ift (pc' := 39) kc_134_16 rfl (xc_le_t (X := v6.toInt) (Y := 0) rfl (by decide) (by omega)) ?_
        refine xcps2 (α := Int32) (x2 + 1) (fun v8 ev8 => ?_)
        have zv8 : v8.toInt = (x2.toInt + 1) := by rw [← ev8]; exact (xz_add (X := x2.toInt) (Y := 1) rfl (by decide) (by omega) (by omega)).trans (by omega)
        refine xi_iinc (pc' := 42) (x := x2) (v := v8) (lv' := [(2, .int v8), (3, .int v6), (0, .ref 1), (1, .ref 67)]) kc_134_39 rfl rfl ev8 rfl (xm_lt ml_134 rfl) ?_
        refine xi_goto (pc' := 2) kc_134_42 rfl ?_
        refine xw_lv (b := [(0, .ref 1), (1, .ref 67), (2, .int v8)]) (lvS_cons (lvS_cons (lvS_cons (lvS_nil (show ([2, 3, 0, 1] : List Nat).Nodup by decide)) rfl) rfl) rfl) ?_
        exact i0 v8 h (by omega) K (by omega)
      · refine xi_iff (pc' := 19) kc_134_16 rfl (xc_le_f (X := v6.toInt) (Y := 0) rfl (by decide) (by omega)) ?_
        refine xi_aload_n (pc' := 20) (x := 67) kc_134_19 rfl rfl ?_
        refine xi_getfield (pc' := 23) (v := .ref 69) kc_134_20 rfl rfl rfl A4 rfl ?_
        refine xi_iload_n (pc' := 24) (x := x2) kc_134_23 rfl rfl ?_
        refine xi_iload_n (pc' := 25) (x := v6) kc_134_24 rfl rfl ?_
        refine xi_iload_n (pc' := 26) (x := v6) kc_134_25 rfl rfl ?_
        refine xi_aload_n (pc' := 27) (x := 1) kc_134_26 rfl rfl ?_
        refine xp_1 K.1 (fun u9 u10 bu9 bu10 A11 => ?_)
        refine xi_getfield (pc' := 30) (v := .int u10) kc_134_27 rfl rfl rfl A11 rfl ?_
        refine xcps2 (α := Int32) ((v6 : Int32) * u10) (fun v12 ev12 => ?_)
        have rv12 := xc_rng v12
        refine xi_imul (pc' := 31) (v := v12) kc_134_30 rfl ev12 ?_
        refine xi_bipush (pc' := 33) (v := 99) kc_134_31 rfl rfl ?_
        refine xcps2 (α := Int32) ((v12 : Int32) + 99) (fun v13 ev13 => ?_)
        have rv13 := xc_rng v13
        refine xi_iadd (pc' := 34) (v := v13) kc_134_33 rfl ev13 ?_
        refine xi_bipush (pc' := 36) (v := 100) kc_134_34 rfl rfl ?_
        refine xcps2 (α := Int32) (v13 / 100) (fun v14 ev14 => ?_)
        have dv14 : 100 * v14.toInt ≤ v13.toInt + 99 ∧ v13.toInt ≤ 100 * v14.toInt + 99 := by rw [← ev14]; exact xz_div (X := v13.toInt) (Y := 100) rfl (by decide) (by decide)
        have bv14 : -21474837 ≤ v14.toInt ∧ v14.toInt ≤ 21474837 := by omega
        refine xi_idiv (pc' := 37) (v := v14) kc_134_36 rfl ev14 (by decide) ?_
        refine xcps2 (α := Int32) ((v6 : Int32) - v14) (fun v15 ev15 => ?_)
        have rv15 := xc_rng v15
        refine xi_isub (pc' := 38) (v := v15) kc_134_37 rfl ev15 ?_
        refine xcps4 (xj_set (v := v15) hy5 ry5 x2 (by first | omega | decide) (by first | omega | decide)) (fun y16 s16 hy16 ry16 => ?_)
        refine xi_iastore (pc' := 39) (x' := y16) kc_134_38 rfl A5 rfl (xi_in (by omega) (by rw [hy5]; omega)) s16 (fun hh16 eh16 => ?_)
        have K17 := xk_pa K (xk_wa rfl) xD_69 hy16 ry16 eh16
        refine xcps2 (α := Int32) (x2 + 1) (fun v18 ev18 => ?_)
        have zv18 : v18.toInt = (x2.toInt + 1) := by rw [← ev18]; exact (xz_add (X := x2.toInt) (Y := 1) rfl (by decide) (by omega) (by omega)).trans (by omega)
        refine xi_iinc (pc' := 42) (x := x2) (v := v18) (lv' := [(2, .int v18), (3, .int v6), (0, .ref 1), (1, .ref 67)]) kc_134_39 rfl rfl ev18 rfl (xm_lt ml_134 rfl) ?_
        refine xi_goto (pc' := 2) kc_134_42 rfl ?_
        refine xw_lv (b := [(0, .ref 1), (1, .ref 67), (2, .int v18)]) (lvS_cons (lvS_cons (lvS_cons (lvS_nil (show ([2, 3, 0, 1] : List Nat).Nodup by decide)) rfl) rfl) rfl) ?_
        exact i0 v18 hh16 (by omega) K17 (by omega)
set_option maxHeartbeats 4000000 in
theorem mt_134_1 {J : xe_J} {ov : List (List Int32)} (hJ : ∀ d mj as h, mj ≠ xe_loff → J d mj as h = none) (hov1 : ov[1]? = some [10, 0, 0, 0, 0, 0]) (hov2 : ov[2]? = some [99, 30, 50, 50, 1, 99999]) {d : Nat} {Q : Option Value → xe_H → Prop} {h : xe_H} (T : xt h) (kk : (∀ h' : xe_H, xk [(0, 9), (115, 1), (83, 0), (29, 0), (31, 0), (33, 0), (35, 0), (37, 0), (39, 0), (41, 0), (43, 0), (45, 0), (47, 0), (49, 0), (51, 0), (125, 0), (66, 8), (115, 18), (71, 0), (132, 0)] h h' → Q none h')) : xw J ov (d + 1) 134 (0, [(0, .ref 1), (1, .ref 67)], [], h) Q := by
  have K : xk [(0, 9), (115, 1), (83, 0), (29, 0), (31, 0), (33, 0), (35, 0), (37, 0), (39, 0), (41, 0), (43, 0), (45, 0), (47, 0), (49, 0), (51, 0), (125, 0), (66, 8), (115, 18), (71, 0), (132, 0)] h h := xk_re T
  refine xi_iconst (pc' := 1) (v := 0) kc_134_0 rfl rfl ?_
  refine xi_istore_n (pc' := 2) (lv' := [(2, .int 0), (0, .ref 1), (1, .ref 67)]) kc_134_1 rfl rfl (xm_lt ml_134 rfl) ?_
  have zc0 : (0 : Int32).toInt = 0 := by decide
  refine xw_lv (b := [(0, .ref 1), (1, .ref 67), (2, .int 0)]) (lvS_cons (lvS_cons (lvS_cons (lvS_nil (show ([2, 0, 1] : List Nat).Nodup by decide)) rfl) rfl) rfl) ?_
  exact (lp_134_1 hJ hov1 hov2 (d := d) (hb := h) (fun h9 K9 => kk h9 (xk_tr K K9 rfl)) 13) 0 h (by omega) (xk_re K.1) (by omega)
set_option maxHeartbeats 4000000 in
theorem lp_124_1 {J : xe_J} {ov : List (List Int32)} (hJ : ∀ d mj as h, mj ≠ xe_loff → J d mj as h = none) (hov1 : ov[1]? = some [10, 0, 0, 0, 0, 0]) (hov2 : ov[2]? = some [99, 30, 50, 50, 1, 99999]) {d : Nat} {Q : Option Value → xe_H → Prop} {hb : xe_H} (kk : (∀ h' : xe_H, xk [(0, 9), (115, 1), (83, 0), (29, 0), (31, 0), (33, 0), (35, 0), (37, 0), (39, 0), (41, 0), (43, 0), (45, 0), (47, 0), (49, 0), (51, 0), (125, 0), (66, 8), (115, 18), (71, 0), (132, 0)] hb h' → Q none h')) : ∀ m : Nat, (∀ (x2 : Int32) (x3 : Int32) (x4 : Int32) (h : xe_H), (0 ≤ x2.toInt ∧ x2.toInt ≤ 599) → (0 ≤ x4.toInt ∧ x4.toInt ≤ 6) → xk [(0, 9), (115, 1), (83, 0), (29, 0), (31, 0), (33, 0), (35, 0), (37, 0), (39, 0), (41, 0), (43, 0), (45, 0), (47, 0), (49, 0), (51, 0), (125, 0), (66, 8), (115, 18), (71, 0), (132, 0)] hb h → (-1) * x4.toInt + 6 < (m : Int) → xw J ov (d + 4) 124 (18, [(0, .ref 1), (1, .ref 67), (2, .int x2), (3, .int x3), (4, .int x4)], [], h) Q) := by
  intro m
  induction m with
  | zero =>
    intro x2 x3 x4 h b2 b4 K hm; have rx3 := xc_rng x3; exfalso; omega
  | succ m ih =>
    have i0 := ih
    intro x2 x3 x4 h b2 b4 K hm
    have rx3 := xc_rng x3
    refine xi_iload (pc' := 20) (x := x4) kc_124_18 rfl rfl ?_
    refine xi_bipush (pc' := 22) (v := 6) kc_124_20 rfl rfl ?_
    by_cases c1 : 6 ≤ x4.toInt
    · refine xi_cmt (pc' := 52) kc_124_22 rfl (xc_ge_t (X := x4.toInt) (Y := 6) rfl (by decide) (by omega)) ?_
      refine xi_aload_n (pc' := 53) (x := 1) kc_124_52 rfl rfl ?_
      refine xi_aload_n (pc' := 54) (x := 67) kc_124_53 rfl rfl ?_
      refine xi_iload_n (pc' := 55) (x := x2) kc_124_54 rfl rfl ?_
      refine xp_1 K.1 (fun u2 u3 bu2 bu3 A4 => ?_)
      refine xi_virtual (mj := 132) (as := [.ref 67, .int x2]) (st1 := []) (lv0 := [(0, .ref 1), (1, .ref 67), (2, .int x2)]) kc_124_55 rfl rfl rfl rfl rfl A4 (Nat.le_of_ble_eq_true rfl) (hJ _ _ _ _ (by decide)) (xm_le ml_132 rfl) rfl ?_
      refine mt_132_1 hJ hov1 hov2 (d := d + 1) (x2 := x2) K.1 (by first | omega | decide) (fun hh6 K7 => ?_)
      have K8 := xk_tr K K7 rfl
      show xw J ov (d + 4) 124 (58, [(0, .ref 1), (1, .ref 67), (2, .int x2), (3, .int x3), (4, .int x4)], [], hh6) _
      refine xi_aload_n (pc' := 59) (x := 1) kc_124_58 rfl rfl ?_
      refine xi_aload_n (pc' := 60) (x := 67) kc_124_59 rfl rfl ?_
      refine xp_1 K8.1 (fun u9 u10 bu9 bu10 A11 => ?_)
      refine xi_virtual (mj := 134) (as := [.ref 67]) (st1 := []) (lv0 := [(0, .ref 1), (1, .ref 67)]) kc_124_60 rfl rfl rfl rfl rfl A11 (Nat.le_of_ble_eq_true rfl) (hJ _ _ _ _ (by decide)) (xm_le ml_134 rfl) rfl ?_
      refine mt_134_1 hJ hov1 hov2 (d := d + 2)  K8.1 (fun hh13 K14 => ?_)
      have K15 := xk_tr K8 K14 rfl
      show xw J ov (d + 4) 124 (63, [(0, .ref 1), (1, .ref 67), (2, .int x2), (3, .int x3), (4, .int x4)], [], hh13) _
      refine xi_return kc_124_63 mr_124 ?_
      exact kk hh13 K15
    · refine xi_cmf (pc' := 25) kc_124_22 rfl (xc_ge_f (X := x4.toInt) (Y := 6) rfl (by decide) (by omega)) ?_
      refine xi_aload_n (pc' := 26) (x := 67) kc_124_25 rfl rfl ?_
      refine xp_67 K.1 (fun u16 u17 bu16 bu17 A18 => ?_)
      refine xi_getfield (pc' := 29) (v := .int u17) kc_124_26 rfl rfl rfl A18 rfl ?_
      refine xi_iload (pc' := 31) (x := x4) kc_124_29 rfl rfl ?_
      refine xcps2 (α := Int32) ((u17 : Int32) >>> (x4 &&& 31)) (fun v19 ev19 => ?_)
      have rv19 := xc_rng v19
      refine xi_ishr (pc' := 32) (v := v19) kc_124_31 rfl ev19 ?_
      refine xi_iconst (pc' := 33) (v := 1) kc_124_32 rfl rfl ?_
      refine xcps2 (α := Int32) ((v19 : Int32) &&& 1) (fun v20 ev20 => ?_)
      have rv20 := xc_rng v20
      refine xi_iand (pc' := 34) (v := v20) kc_124_33 rfl ev20 ?_
      by_cases c21 : v20.toInt = 0
      · refine xi_ift (pc' := 46) kc_124_34 rfl (xc_eq_t (X := v20.toInt) (Y := 0) rfl (by decide) (by omega)) ?_
        refine xcps2 (α := Int32) (x4 + 1) (fun v22 ev22 => ?_)
        have zv22 : v22.toInt = (x4.toInt + 1) := by rw [← ev22]; exact (xz_add (X := x4.toInt) (Y := 1) rfl (by decide) (by omega) (by omega)).trans (by omega)
        refine xi_iinc (pc' := 49) (x := x4) (v := v22) (lv' := [(4, .int v22), (0, .ref 1), (1, .ref 67), (2, .int x2), (3, .int x3)]) kc_124_46 rfl rfl ev22 rfl (xm_lt ml_124 rfl) ?_
        refine xi_goto (pc' := 18) kc_124_49 rfl ?_
        refine xw_lv (b := [(0, .ref 1), (1, .ref 67), (2, .int x2), (3, .int x3), (4, .int v22)]) (lvS_cons (lvS_cons (lvS_cons (lvS_cons (lvS_cons (lvS_nil (show ([4, 0, 1, 2, 3] : List Nat).Nodup by decide)) rfl) rfl) rfl) rfl) rfl) ?_
        exact i0 x2 x3 v22 h (by omega) (by omega) K (by omega)
      · refine xi_iff (pc' := 37) kc_124_34 rfl (xc_eq_f (X := v20.toInt) (Y := 0) rfl (by decide) (by omega)) ?_
        refine xi_aload_n (pc' := 38) (x := 1) kc_124_37 rfl rfl ?_
        refine xi_aload_n (pc' := 39) (x := 67) kc_124_38 rfl rfl ?_
        refine xi_iload (pc' := 41) (x := x4) kc_124_39 rfl rfl ?_
        refine xi_iload_n (pc' := 42) (x := x2) kc_124_41 rfl rfl ?_
        refine xi_iload_n (pc' := 43) (x := x3) kc_124_42 rfl rfl ?_
        refine xp_1 K.1 (fun u23 u24 bu23 bu24 A25 => ?_)
        refine xi_virtual (mj := 128) (as := [.ref 67, .int x4, .int x2, .int x3]) (st1 := []) (lv0 := [(0, .ref 1), (1, .ref 67), (2, .int x4), (3, .int x2), (4, .int x3)]) kc_124_43 rfl rfl rfl rfl rfl A25 (Nat.le_of_ble_eq_true rfl) (hJ _ _ _ _ (by decide)) (xm_le ml_128 rfl) rfl ?_
        refine mt_128_1 hJ hov1 hov2 (d := d) (x2 := x4) (x3 := x2) (x4 := x3) K.1 (by first | omega | decide) (by first | omega | decide) (fun hh27 K28 => ?_)
        have K29 := xk_tr K K28 rfl
        show xw J ov (d + 4) 124 (46, [(0, .ref 1), (1, .ref 67), (2, .int x2), (3, .int x3), (4, .int x4)], [], hh27) _
        refine xcps2 (α := Int32) (x4 + 1) (fun v30 ev30 => ?_)
        have zv30 : v30.toInt = (x4.toInt + 1) := by rw [← ev30]; exact (xz_add (X := x4.toInt) (Y := 1) rfl (by decide) (by omega) (by omega)).trans (by omega)
        refine xi_iinc (pc' := 49) (x := x4) (v := v30) (lv' := [(4, .int v30), (0, .ref 1), (1, .ref 67), (2, .int x2), (3, .int x3)]) kc_124_46 rfl rfl ev30 rfl (xm_lt ml_124 rfl) ?_
        refine xi_goto (pc' := 18) kc_124_49 rfl ?_
        refine xw_lv (b := [(0, .ref 1), (1, .ref 67), (2, .int x2), (3, .int x3), (4, .int v30)]) (lvS_cons (lvS_cons (lvS_cons (lvS_cons (lvS_cons (lvS_nil (show ([4, 0, 1, 2, 3] : List Nat).Nodup by decide)) rfl) rfl) rfl) rfl) rfl) ?_
        exact i0 x2 x3 v30 hh27 (by omega) (by omega) K29 (by omega)
set_option maxHeartbeats 4000000 in
theorem mt_124_1 {J : xe_J} {ov : List (List Int32)} (hJ : ∀ d mj as h, mj ≠ xe_loff → J d mj as h = none) (hov1 : ov[1]? = some [10, 0, 0, 0, 0, 0]) (hov2 : ov[2]? = some [99, 30, 50, 50, 1, 99999]) {d : Nat} {Q : Option Value → xe_H → Prop} {h : xe_H} {x2 : Int32} (T : xt h) (b2 : (0 ≤ x2.toInt ∧ x2.toInt ≤ 599)) (kk : (∀ h' : xe_H, xk [(0, 9), (115, 1), (83, 0), (29, 0), (31, 0), (33, 0), (35, 0), (37, 0), (39, 0), (41, 0), (43, 0), (45, 0), (47, 0), (49, 0), (51, 0), (125, 0), (66, 8), (115, 18), (71, 0), (132, 0)] h h' → Q none h')) : xw J ov (d + 4) 124 (0, [(0, .ref 1), (1, .ref 67), (2, .int x2)], [], h) Q := by
  have K : xk [(0, 9), (115, 1), (83, 0), (29, 0), (31, 0), (33, 0), (35, 0), (37, 0), (39, 0), (41, 0), (43, 0), (45, 0), (47, 0), (49, 0), (51, 0), (125, 0), (66, 8), (115, 18), (71, 0), (132, 0)] h h := xk_re T
  refine xi_aload_n (pc' := 1) (x := 1) kc_124_0 rfl rfl ?_
  refine xp_1 K.1 (fun u1 u2 bu1 bu2 A3 => ?_)
  refine xi_getfield (pc' := 4) (v := .ref 5) kc_124_1 rfl rfl rfl A3 rfl ?_
  refine xi_iload_n (pc' := 5) (x := x2) kc_124_4 rfl rfl ?_
  refine xp_5 K.1 (fun u4 bu4 A5 => ?_)
  refine xi_virtual (mj := 99) (as := [.int x2]) (st1 := []) (lv0 := [(0, .ref 5), (1, .int x2)]) kc_124_5 rfl rfl rfl rfl rfl A5 (Nat.le_of_ble_eq_true rfl) (hJ _ _ _ _ (by decide)) (xm_le ml_99 rfl) rfl ?_
  refine xi_iload_n (pc' := 1) (x := x2) kc_99_0 rfl rfl ?_
  refine xi_iff (pc' := 4) kc_99_1 rfl (xc_lt_f (X := x2.toInt) (Y := 0) rfl (by decide) (by omega)) ?_
  refine xi_iload_n (pc' := 5) (x := x2) kc_99_4 rfl rfl ?_
  refine xi_aload_n (pc' := 6) (x := 5) kc_99_5 rfl rfl ?_
  refine xi_getfield (pc' := 9) (v := .ref 7) kc_99_6 rfl rfl rfl A5 rfl ?_
  refine xcps4 (xk_arr K.1 xD_7) (fun y6 A6 hy6 ry6 => ?_)
  refine xi_arraylength (pc' := 10) (n := 601) (v := 601) kc_99_9 rfl (xl_lenI (by decide) (by decide) A6 hy6) rfl ?_
  refine xi_cmt (pc' := 20) kc_99_10 rfl (xc_lt_t (X := x2.toInt) (Y := 601) rfl (by decide) (by omega)) ?_
  refine xi_aload_n (pc' := 21) (x := 5) kc_99_20 rfl rfl ?_
  refine xi_getfield (pc' := 24) (v := .ref 7) kc_99_21 rfl rfl rfl A5 rfl ?_
  refine xi_iload_n (pc' := 25) (x := x2) kc_99_24 rfl rfl ?_
  refine xcps4 (xj_get hy6 ry6 (i := x2) (by omega) (by omega)) (fun v7 ev7 bv7 dv7 => ?_)
  refine xi_iaload (pc' := 26) (v := v7) kc_99_25 rfl A6 (by decide) rfl (xi_in (by omega) (by rw [hy6]; omega)) ev7 ?_
  refine xi_ireturn kc_99_26 mr_99 rfl ?_
  show xw J ov (d + 4) 124 (8, [(0, .ref 1), (1, .ref 67), (2, .int x2)], [.int v7], h) _
  refine xi_istore_n (pc' := 9) (lv' := [(3, .int v7), (0, .ref 1), (1, .ref 67), (2, .int x2)]) kc_124_8 rfl rfl (xm_lt ml_124 rfl) ?_
  refine xi_aload_n (pc' := 10) (x := 1) kc_124_9 rfl rfl ?_
  refine xi_aload_n (pc' := 11) (x := 67) kc_124_10 rfl rfl ?_
  refine xi_iload_n (pc' := 12) (x := x2) kc_124_11 rfl rfl ?_
  refine xi_virtual (mj := 125) (as := [.ref 67, .int x2]) (st1 := []) (lv0 := [(0, .ref 1), (1, .ref 67), (2, .int x2)]) kc_124_12 rfl rfl rfl rfl rfl A3 (Nat.le_of_ble_eq_true rfl) (hJ _ _ _ _ (by decide)) (xm_le ml_125 rfl) rfl ?_
  refine mt_125_1 hJ hov1 hov2 (d := d + 1) (x2 := x2) K.1 (by first | omega | decide) (fun hh9 K10 => ?_)
  have K11 := xk_tr K K10 rfl
  show xw J ov (d + 4) 124 (15, [(3, .int v7), (0, .ref 1), (1, .ref 67), (2, .int x2)], [], hh9) _
  refine xi_iconst (pc' := 16) (v := 0) kc_124_15 rfl rfl ?_
  refine xi_istore (pc' := 18) (lv' := [(4, .int 0), (3, .int v7), (0, .ref 1), (1, .ref 67), (2, .int x2)]) kc_124_16 rfl rfl (xm_lt ml_124 rfl) ?_
  have zc0 : (0 : Int32).toInt = 0 := by decide
  refine xw_lv (b := [(0, .ref 1), (1, .ref 67), (2, .int x2), (3, .int v7), (4, .int 0)]) (lvS_cons (lvS_cons (lvS_cons (lvS_cons (lvS_cons (lvS_nil (show ([4, 3, 0, 1, 2] : List Nat).Nodup by decide)) rfl) rfl) rfl) rfl) rfl) ?_
  exact (lp_124_1 hJ hov1 hov2 (d := d) (hb := hh9) (fun h9 K9 => kk h9 (xk_tr K11 K9 rfl)) 7) x2 v7 0 hh9 (by omega) (by omega) (xk_re K11.1) (by omega)
set_option maxHeartbeats 4000000 in
theorem lp_142_0 {J : xe_J} {ov : List (List Int32)} (hJ : ∀ d mj as h, mj ≠ xe_loff → J d mj as h = none) (hov1 : ov[1]? = some [10, 0, 0, 0, 0, 0]) (hov2 : ov[2]? = some [99, 30, 50, 50, 1, 99999]) {d : Nat} {Q : Option Value → xe_H → Prop} {hb : xe_H} (kk : (∀ (r : Int32) (h' : xe_H), xk [(0, 9), (115, 1), (83, 0), (29, 0), (31, 0), (33, 0), (35, 0), (37, 0), (39, 0), (41, 0), (43, 0), (45, 0), (47, 0), (49, 0), (51, 0), (125, 0), (66, 8), (115, 18), (71, 0), (132, 0)] hb h' → Q (some (.int r)) h')) : ∀ m : Nat, (∀ (x1 : Int32) (x2 : Int32) (h : xe_H), (0 ≤ x2.toInt ∧ x2.toInt ≤ 12) → xk [(0, 9), (115, 1), (83, 0), (29, 0), (31, 0), (33, 0), (35, 0), (37, 0), (39, 0), (41, 0), (43, 0), (45, 0), (47, 0), (49, 0), (51, 0), (125, 0), (66, 8), (115, 18), (71, 0), (132, 0)] hb h → (-1) * x2.toInt + 12 < (m : Int) → xw J ov (d + 2) 142 (4, [(0, .ref 1), (1, .int x1), (2, .int x2)], [], h) Q) := by
  intro m
  induction m with
  | zero =>
    intro x1 x2 h b2 K hm; have rx1 := xc_rng x1; exfalso; omega
  | succ m ih =>
    have i0 := ih
    intro x1 x2 h b2 K hm
    have rx1 := xc_rng x1
    refine xi_iload_n (pc' := 5) (x := x2) kc_142_4 rfl rfl ?_
    refine xi_bipush (pc' := 7) (v := 12) kc_142_5 rfl rfl ?_
    by_cases c1 : 12 ≤ x2.toInt
    · refine xi_cmt (pc' := 42) kc_142_7 rfl (xc_ge_t (X := x2.toInt) (Y := 12) rfl (by decide) (by omega)) ?_
      refine xi_iload_n (pc' := 43) (x := x1) kc_142_42 rfl rfl ?_
      refine xi_ireturn kc_142_43 mr_142 rfl ?_
      exact kk x1 h K
    · refine xi_cmf (pc' := 10) kc_142_7 rfl (xc_ge_f (X := x2.toInt) (Y := 12) rfl (by decide) (by omega)) ?_
      refine xi_aload_n (pc' := 11) (x := 1) kc_142_10 rfl rfl ?_
      refine xp_1 K.1 (fun u2 u3 bu2 bu3 A4 => ?_)
      refine xi_getfield (pc' := 14) (v := .ref 3) kc_142_11 rfl rfl rfl A4 rfl ?_
      refine xi_iload_n (pc' := 15) (x := x2) kc_142_14 rfl rfl ?_
      have A5 := xk_ex K.1 xD_3
      obtain ⟨pt6, ept6, mpt6⟩ := xR_3 (i := x2) (by omega) (by omega)
      refine xj_aaload (pc' := 16) (b := pt6) kc_142_15 rfl A5 rfl (xi_in (n := 12) (by omega) (by omega)) ept6 ?_
      obtain ⟨u7, u8, u9, u10, pt11, bu7, bu8, bu9, bu10, mpt11, A12⟩ := xg_wall K.1 mpt6
      refine xi_virtual (mj := 105) (as := []) (st1 := []) (lv0 := [(0, .ref pt6)]) kc_142_16 rfl rfl rfl rfl rfl A12 (Nat.le_of_ble_eq_true rfl) (hJ _ _ _ _ (by decide)) (xm_le ml_105 rfl) rfl ?_
      refine xi_aload_n (pc' := 1) (x := pt6) kc_105_0 rfl rfl ?_
      refine xi_getfield (pc' := 4) (v := .int u7) kc_105_1 rfl rfl rfl A12 rfl ?_
      refine xi_static (mj := 89) (as := [.int u7]) (st1 := []) (lv0 := [(0, .int u7)]) kc_105_4 rfl rfl (Nat.le_of_ble_eq_true rfl) rfl rfl (Nat.le_of_ble_eq_true rfl) (hJ _ _ _ _ (by decide)) (xm_le ml_89 rfl) rfl ?_
      refine xi_iload_n (pc' := 1) (x := u7) kc_89_0 rfl rfl ?_
      by_cases c13 : u7.toInt < 0
      · refine xi_ift (pc' := 14) kc_89_1 rfl (xc_lt_t (X := u7.toInt) (Y := 0) rfl (by decide) (by omega)) ?_
        refine xi_iconst (pc' := 15) (v := 0) kc_89_14 rfl rfl ?_
        refine xi_ireturn kc_89_15 mr_89 rfl ?_
        show xw J ov (d + 1) 105 (7, [(0, .ref pt6)], [.int 0], h) _
        refine xi_ireturn kc_105_7 mr_105 rfl ?_
        show xw J ov (d + 2) 142 (19, [(0, .ref 1), (1, .int x1), (2, .int x2)], [.int 0], h) _
        refine xi_ift (pc' := 36) kc_142_19 rfl rfl ?_
        refine xcps2 (α := Int32) (x2 + 1) (fun v14 ev14 => ?_)
        have zv14 : v14.toInt = (x2.toInt + 1) := by rw [← ev14]; exact (xz_add (X := x2.toInt) (Y := 1) rfl (by decide) (by omega) (by omega)).trans (by omega)
        refine xi_iinc (pc' := 39) (x := x2) (v := v14) (lv' := [(2, .int v14), (0, .ref 1), (1, .int x1)]) kc_142_36 rfl rfl ev14 rfl (xm_lt ml_142 rfl) ?_
        refine xi_goto (pc' := 4) kc_142_39 rfl ?_
        refine xw_lv (b := [(0, .ref 1), (1, .int x1), (2, .int v14)]) (lvS_cons (lvS_cons (lvS_cons (lvS_nil (show ([2, 0, 1] : List Nat).Nodup by decide)) rfl) rfl) rfl) ?_
        exact i0 x1 v14 h (by omega) K (by omega)
      · refine xi_iff (pc' := 4) kc_89_1 rfl (xc_lt_f (X := u7.toInt) (Y := 0) rfl (by decide) (by omega)) ?_
        refine xi_iload_n (pc' := 5) (x := u7) kc_89_4 rfl rfl ?_
        refine xi_bipush (pc' := 7) (v := 6) kc_89_5 rfl rfl ?_
        by_cases c15 : 6 ≤ u7.toInt
        · refine xi_cmt (pc' := 14) kc_89_7 rfl (xc_ge_t (X := u7.toInt) (Y := 6) rfl (by decide) (by omega)) ?_
          refine xi_iconst (pc' := 15) (v := 0) kc_89_14 rfl rfl ?_
          refine xi_ireturn kc_89_15 mr_89 rfl ?_
          show xw J ov (d + 1) 105 (7, [(0, .ref pt6)], [.int 0], h) _
          refine xi_ireturn kc_105_7 mr_105 rfl ?_
          show xw J ov (d + 2) 142 (19, [(0, .ref 1), (1, .int x1), (2, .int x2)], [.int 0], h) _
          refine xi_ift (pc' := 36) kc_142_19 rfl rfl ?_
          refine xcps2 (α := Int32) (x2 + 1) (fun v16 ev16 => ?_)
          have zv16 : v16.toInt = (x2.toInt + 1) := by rw [← ev16]; exact (xz_add (X := x2.toInt) (Y := 1) rfl (by decide) (by omega) (by omega)).trans (by omega)
          refine xi_iinc (pc' := 39) (x := x2) (v := v16) (lv' := [(2, .int v16), (0, .ref 1), (1, .int x1)]) kc_142_36 rfl rfl ev16 rfl (xm_lt ml_142 rfl) ?_
          refine xi_goto (pc' := 4) kc_142_39 rfl ?_
          refine xw_lv (b := [(0, .ref 1), (1, .int x1), (2, .int v16)]) (lvS_cons (lvS_cons (lvS_cons (lvS_nil (show ([2, 0, 1] : List Nat).Nodup by decide)) rfl) rfl) rfl) ?_
          exact i0 x1 v16 h (by omega) K (by omega)
        · refine xi_cmf (pc' := 10) kc_89_7 rfl (xc_ge_f (X := u7.toInt) (Y := 6) rfl (by decide) (by omega)) ?_
          refine xi_iconst (pc' := 11) (v := 1) kc_89_10 rfl rfl ?_
          refine xi_goto (pc' := 15) kc_89_11 rfl ?_
          refine xi_ireturn kc_89_15 mr_89 rfl ?_
          show xw J ov (d + 1) 105 (7, [(0, .ref pt6)], [.int 1], h) _
          refine xi_ireturn kc_105_7 mr_105 rfl ?_
          show xw J ov (d + 2) 142 (19, [(0, .ref 1), (1, .int x1), (2, .int x2)], [.int 1], h) _
          refine xi_iff (pc' := 22) kc_142_19 rfl rfl ?_
          refine xi_iload_n (pc' := 23) (x := x1) kc_142_22 rfl rfl ?_
          refine xi_iconst (pc' := 24) (v := 1) kc_142_23 rfl rfl ?_
          refine xi_aload_n (pc' := 25) (x := 1) kc_142_24 rfl rfl ?_
          refine xi_getfield (pc' := 28) (v := .ref 3) kc_142_25 rfl rfl rfl A4 rfl ?_
          refine xi_iload_n (pc' := 29) (x := x2) kc_142_28 rfl rfl ?_
          refine xj_aaload (pc' := 30) (b := pt6) kc_142_29 rfl A5 rfl (xi_in (n := 12) (by omega) (by omega)) ept6 ?_
          refine xi_getfield (pc' := 33) (v := .int u7) kc_142_30 rfl rfl rfl A12 rfl ?_
          refine xcps2 (α := Int32) ((1 : Int32) <<< (u7 &&& 31)) (fun v17 ev17 => ?_)
          have rv17 := xc_rng v17
          have bv17 : 1 ≤ v17.toInt ∧ v17.toInt ≤ 64 := by rw [← ev17]; exact xj_shl6 (by omega) (by omega)
          refine xi_ishl (pc' := 34) (v := v17) kc_142_33 rfl ev17 ?_
          refine xcps2 (α := Int32) ((x1 : Int32) ||| v17) (fun v18 ev18 => ?_)
          have rv18 := xc_rng v18
          refine xi_ior (pc' := 35) (v := v18) kc_142_34 rfl ev18 ?_
          refine xi_istore_n (pc' := 36) (lv' := [(1, .int v18), (0, .ref 1), (2, .int x2)]) kc_142_35 rfl rfl (xm_lt ml_142 rfl) ?_
          refine xcps2 (α := Int32) (x2 + 1) (fun v19 ev19 => ?_)
          have zv19 : v19.toInt = (x2.toInt + 1) := by rw [← ev19]; exact (xz_add (X := x2.toInt) (Y := 1) rfl (by decide) (by omega) (by omega)).trans (by omega)
          refine xi_iinc (pc' := 39) (x := x2) (v := v19) (lv' := [(2, .int v19), (1, .int v18), (0, .ref 1)]) kc_142_36 rfl rfl ev19 rfl (xm_lt ml_142 rfl) ?_
          refine xi_goto (pc' := 4) kc_142_39 rfl ?_
          refine xw_lv (b := [(0, .ref 1), (1, .int v18), (2, .int v19)]) (lvS_cons (lvS_cons (lvS_cons (lvS_nil (show ([2, 1, 0] : List Nat).Nodup by decide)) rfl) rfl) rfl) ?_
          exact i0 v18 v19 h (by omega) K (by omega)
set_option maxHeartbeats 4000000 in
theorem mt_142_0 {J : xe_J} {ov : List (List Int32)} (hJ : ∀ d mj as h, mj ≠ xe_loff → J d mj as h = none) (hov1 : ov[1]? = some [10, 0, 0, 0, 0, 0]) (hov2 : ov[2]? = some [99, 30, 50, 50, 1, 99999]) {d : Nat} {Q : Option Value → xe_H → Prop} {h : xe_H} (T : xt h) (kk : (∀ (r : Int32) (h' : xe_H), xk [(0, 9), (115, 1), (83, 0), (29, 0), (31, 0), (33, 0), (35, 0), (37, 0), (39, 0), (41, 0), (43, 0), (45, 0), (47, 0), (49, 0), (51, 0), (125, 0), (66, 8), (115, 18), (71, 0), (132, 0)] h h' → Q (some (.int r)) h')) : xw J ov (d + 2) 142 (0, [(0, .ref 1)], [], h) Q := by
  have K : xk [(0, 9), (115, 1), (83, 0), (29, 0), (31, 0), (33, 0), (35, 0), (37, 0), (39, 0), (41, 0), (43, 0), (45, 0), (47, 0), (49, 0), (51, 0), (125, 0), (66, 8), (115, 18), (71, 0), (132, 0)] h h := xk_re T
  refine xi_iconst (pc' := 1) (v := 0) kc_142_0 rfl rfl ?_
  refine xi_istore_n (pc' := 2) (lv' := [(1, .int 0), (0, .ref 1)]) kc_142_1 rfl rfl (xm_lt ml_142 rfl) ?_
  refine xi_iconst (pc' := 3) (v := 0) kc_142_2 rfl rfl ?_
  refine xi_istore_n (pc' := 4) (lv' := [(2, .int 0), (1, .int 0), (0, .ref 1)]) kc_142_3 rfl rfl (xm_lt ml_142 rfl) ?_
  have zc0 : (0 : Int32).toInt = 0 := by decide
  refine xw_lv (b := [(0, .ref 1), (1, .int 0), (2, .int 0)]) (lvS_cons (lvS_cons (lvS_cons (lvS_nil (show ([2, 1, 0] : List Nat).Nodup by decide)) rfl) rfl) rfl) ?_
  exact (lp_142_0 hJ hov1 hov2 (d := d) (hb := h) (fun r9 h9 K9 => kk r9 h9 (xk_tr K K9 rfl)) 13) 0 0 h (by omega) (xk_re K.1) (by omega)
set_option maxHeartbeats 4000000 in
theorem mt_143_0 {J : xe_J} {ov : List (List Int32)} (hJ : ∀ d mj as h, mj ≠ xe_loff → J d mj as h = none) (hov1 : ov[1]? = some [10, 0, 0, 0, 0, 0]) (hov2 : ov[2]? = some [99, 30, 50, 50, 1, 99999]) {d : Nat} {Q : Option Value → xe_H → Prop} {h : xe_H} {x1 : Int32} {x2 : Int32} (T : xt h) (b1 : (0 ≤ x1.toInt ∧ x1.toInt ≤ 63)) (kk : (∀ h' : xe_H, xk [(0, 9), (115, 1), (83, 0), (29, 0), (31, 0), (33, 0), (35, 0), (37, 0), (39, 0), (41, 0), (43, 0), (45, 0), (47, 0), (49, 0), (51, 0), (125, 0), (66, 8), (115, 18), (71, 0), (132, 0)] h h' → Q none h')) : xw J ov (d + 1) 143 (0, [(0, .ref 67), (1, .int x1), (2, .int x2)], [], h) Q := by
  have K : xk [(0, 9), (115, 1), (83, 0), (29, 0), (31, 0), (33, 0), (35, 0), (37, 0), (39, 0), (41, 0), (43, 0), (45, 0), (47, 0), (49, 0), (51, 0), (125, 0), (66, 8), (115, 18), (71, 0), (132, 0)] h h := xk_re T
  have rx2 := xc_rng x2
  refine xi_aload_n (pc' := 1) (x := 67) kc_143_0 rfl rfl ?_
  refine xp_67 K.1 (fun u1 u2 bu1 bu2 A3 => ?_)
  refine xi_getfield (pc' := 4) (v := .ref 68) kc_143_1 rfl rfl rfl A3 rfl ?_
  refine xi_iconst (pc' := 5) (v := 0) kc_143_4 rfl rfl ?_
  refine xi_static (mj := 1) (as := [.ref 68, .int 0]) (st1 := []) (lv0 := [(0, .ref 68), (1, .int 0)]) kc_143_5 rfl rfl (Nat.le_of_ble_eq_true rfl) rfl rfl (Nat.le_of_ble_eq_true rfl) (hJ _ _ _ _ (by decide)) (xm_le ml_1 rfl) rfl ?_
  refine xcps4 (xk_arr K.1 xD_68) (fun y4 A4 hy4 ry4 => ?_)
  refine xl_fill (N := 6) (by decide) rfl (by decide) hy4 A4 (fun hh6 eh5 => ?_)
  have hy7 : (List.replicate 6 (0 : Int32)).length = 6 := List.length_replicate
  have ry7 := xj_fill (n := 6) (v := 0) (lo := (-2147483648)) (hi := 2147483647) (by first | omega | decide) (by first | omega | decide)
  have K8 := xk_pa K (xk_wa rfl) xD_68 hy7 ry7 eh5
  show xw J ov (d + 1) 143 (8, [(0, .ref 67), (1, .int x1), (2, .int x2)], [], hh6) _
  refine xi_aload_n (pc' := 9) (x := 67) kc_143_8 rfl rfl ?_
  have A9 := ((eh5.2.1 67 (by decide)).trans A3)
  refine xi_getfield (pc' := 12) (v := .ref 69) kc_143_9 rfl rfl rfl A9 rfl ?_
  refine xi_iconst (pc' := 13) (v := 0) kc_143_12 rfl rfl ?_
  refine xi_static (mj := 1) (as := [.ref 69, .int 0]) (st1 := []) (lv0 := [(0, .ref 69), (1, .int 0)]) kc_143_13 rfl rfl (Nat.le_of_ble_eq_true rfl) rfl rfl (Nat.le_of_ble_eq_true rfl) (hJ _ _ _ _ (by decide)) (xm_le ml_1 rfl) rfl ?_
  refine xcps4 (xk_arr K8.1 xD_69) (fun y10 A10 hy10 ry10 => ?_)
  refine xl_fill (N := 12) (by decide) rfl (by decide) hy10 A10 (fun hh12 eh11 => ?_)
  have hy13 : (List.replicate 12 (0 : Int32)).length = 12 := List.length_replicate
  have ry13 := xj_fill (n := 12) (v := 0) (lo := (-2147483648)) (hi := 2147483647) (by first | omega | decide) (by first | omega | decide)
  have K14 := xk_pa K8 (xk_wa rfl) xD_69 hy13 ry13 eh11
  show xw J ov (d + 1) 143 (16, [(0, .ref 67), (1, .int x1), (2, .int x2)], [], hh12) _
  refine xi_aload_n (pc' := 17) (x := 67) kc_143_16 rfl rfl ?_
  refine xi_iload_n (pc' := 18) (x := x1) kc_143_17 rfl rfl ?_
  have A15 := ((eh11.2.1 67 (by decide)).trans A9)
  refine xi_putfield (pc' := 21) (fs' := [.ref 68, .ref 69, .int x1, .int u2]) kc_143_18 rfl rfl rfl A15 rfl rfl rfl (Nat.le_of_ble_eq_true rfl) rfl (fun hh17 eh16 => ?_)
  have K18 := xk_pf (k := 2) (v := x1) K14 (xk_wf rfl) xD_67 A15 rfl (by first | omega | decide) (by first | omega | decide) eh16 rfl
  refine xi_aload_n (pc' := 22) (x := 67) kc_143_21 rfl rfl ?_
  refine xi_iload_n (pc' := 23) (x := x2) kc_143_22 rfl rfl ?_
  refine xi_putfield (pc' := 26) (fs' := [.ref 68, .ref 69, .int x1, .int x2]) kc_143_23 rfl rfl rfl eh16.1 rfl rfl rfl (Nat.le_of_ble_eq_true rfl) rfl (fun hh20 eh19 => ?_)
  have K21 := xk_pf (k := 3) (v := x2) K18 (xk_wf rfl) xD_67 eh16.1 rfl (by first | omega | decide) (by first | omega | decide) eh19 rfl
  refine xi_return kc_143_26 mr_143 ?_
  exact kk hh20 K21
set_option maxHeartbeats 4000000 in
theorem lp_141_0 {J : xe_J} {ov : List (List Int32)} (hJ : ∀ d mj as h, mj ≠ xe_loff → J d mj as h = none) (hov1 : ov[1]? = some [10, 0, 0, 0, 0, 0]) (hov2 : ov[2]? = some [99, 30, 50, 50, 1, 99999]) {d : Nat} {Q : Option Value → xe_H → Prop} {hb : xe_H} (kk : (∀ (r : Int32) (h' : xe_H), xk [(0, 9), (115, 1), (83, 0), (29, 0), (31, 0), (33, 0), (35, 0), (37, 0), (39, 0), (41, 0), (43, 0), (45, 0), (47, 0), (49, 0), (51, 0), (125, 0), (66, 8), (115, 18), (71, 0), (132, 0)] hb h' → Q (some (.int r)) h')) : ∀ m : Nat, (∀ (x2 : Int32) (x3 : Int32) (x4 : Int32) (h : xe_H), (0 ≤ x2.toInt ∧ x2.toInt ≤ 11) → (0 ≤ x3.toInt ∧ x3.toInt ≤ 600) → (0 ≤ x4.toInt ∧ x4.toInt ≤ 600) → xk [(0, 9), (115, 1), (83, 0), (29, 0), (31, 0), (33, 0), (35, 0), (37, 0), (39, 0), (41, 0), (43, 0), (45, 0), (47, 0), (49, 0), (51, 0), (125, 0), (66, 8), (115, 18), (71, 0), (132, 0)] hb h → (-1) * x4.toInt + 600 < (m : Int) → xw J ov (d + 5) 141 (18, [(0, .ref 66), (2, .int x2), (3, .int x3), (4, .int x4)], [], h) Q) := by
  intro m
  induction m with
  | zero =>
    intro x2 x3 x4 h b2 b3 b4 K hm; exfalso; omega
  | succ m ih =>
    have i0 := ih
    intro x2 x3 x4 h b2 b3 b4 K hm
    refine xi_iload (pc' := 20) (x := x4) kc_141_18 rfl rfl ?_
    refine xi_iload_n (pc' := 21) (x := x3) kc_141_20 rfl rfl ?_
    by_cases c1 : x3.toInt ≤ x4.toInt
    · refine xi_cmt (pc' := 51) kc_141_21 rfl (xc_ge_t (X := x4.toInt) (Y := x3.toInt) rfl rfl (by omega)) ?_
      refine xi_iload_n (pc' := 52) (x := x2) kc_141_51 rfl rfl ?_
      refine xi_static (mj := 104) (as := [.int x2]) (st1 := []) (lv0 := [(0, .int x2)]) kc_141_52 rfl rfl (Nat.le_of_ble_eq_true rfl) rfl rfl (Nat.le_of_ble_eq_true rfl) (hJ _ _ _ _ (by decide)) (xm_le ml_104 rfl) rfl ?_
      refine xi_iload_n (pc' := 1) (x := x2) kc_104_0 rfl rfl ?_
      refine xi_iff (pc' := 4) kc_104_1 rfl (xc_lt_f (X := x2.toInt) (Y := 0) rfl (by decide) (by omega)) ?_
      refine xi_iload_n (pc' := 5) (x := x2) kc_104_4 rfl rfl ?_
      refine xi_bipush (pc' := 7) (v := 12) kc_104_5 rfl rfl ?_
      refine xi_cmf (pc' := 10) kc_104_7 rfl (xc_ge_f (X := x2.toInt) (Y := 12) rfl (by decide) (by omega)) ?_
      refine xi_iconst (pc' := 11) (v := 1) kc_104_10 rfl rfl ?_
      refine xi_goto (pc' := 15) kc_104_11 rfl ?_
      refine xi_ireturn kc_104_15 mr_104 rfl ?_
      show xw J ov (d + 5) 141 (55, [(0, .ref 66), (2, .int x2), (3, .int x3), (4, .int x4)], [.int 1], h) _
      refine xi_iff (pc' := 58) kc_141_55 rfl rfl ?_
      refine xi_aload_n (pc' := 59) (x := 66) kc_141_58 rfl rfl ?_
      refine xp_66 K.1 (fun u3 wl2 bu3 A4 => ?_)
      refine xi_getfield (pc' := 62) (v := .ref 67) kc_141_59 rfl rfl rfl A4 rfl ?_
      refine xp_67 K.1 (fun u5 u6 bu5 bu6 A7 => ?_)
      refine xi_getfield (pc' := 65) (v := .ref 69) kc_141_62 rfl rfl rfl A7 rfl ?_
      refine xi_iload_n (pc' := 66) (x := x2) kc_141_65 rfl rfl ?_
      refine xcps4 (xk_arr K.1 xD_69) (fun y8 A8 hy8 ry8 => ?_)
      refine xcps4 (xj_get hy8 ry8 (i := x2) (by omega) (by omega)) (fun v9 ev9 bv9 dv9 => ?_)
      refine xi_iaload (pc' := 67) (v := v9) kc_141_66 rfl A8 (by decide) rfl (xi_in (by omega) (by rw [hy8]; omega)) ev9 ?_
      refine xi_goto (pc' := 71) kc_141_67 rfl ?_
      refine xi_ireturn kc_141_71 mr_141 rfl ?_
      exact kk v9 h K
    · refine xi_cmf (pc' := 24) kc_141_21 rfl (xc_ge_f (X := x4.toInt) (Y := x3.toInt) rfl rfl (by omega)) ?_
      refine xi_iload (pc' := 26) (x := x4) kc_141_24 rfl rfl ?_
      refine xi_sipush (pc' := 29) (v := 600) kc_141_26 rfl rfl ?_
      refine xi_cmf (pc' := 32) kc_141_29 rfl (xc_ge_f (X := x4.toInt) (Y := 600) rfl (by decide) (by omega)) ?_
      refine xi_aload_n (pc' := 33) (x := 66) kc_141_32 rfl rfl ?_
      refine xp_66 K.1 (fun u11 wl10 bu11 A12 => ?_)
      refine xi_getfield (pc' := 36) (v := .ref 1) kc_141_33 rfl rfl rfl A12 rfl ?_
      refine xi_aload_n (pc' := 37) (x := 66) kc_141_36 rfl rfl ?_
      refine xi_getfield (pc' := 40) (v := .ref 67) kc_141_37 rfl rfl rfl A12 rfl ?_
      refine xi_iload (pc' := 42) (x := x4) kc_141_40 rfl rfl ?_
      refine xp_1 K.1 (fun u13 u14 bu13 bu14 A15 => ?_)
      refine xi_virtual (mj := 124) (as := [.ref 67, .int x4]) (st1 := []) (lv0 := [(0, .ref 1), (1, .ref 67), (2, .int x4)]) kc_141_42 rfl rfl rfl rfl rfl A15 (Nat.le_of_ble_eq_true rfl) (hJ _ _ _ _ (by decide)) (xm_le ml_124 rfl) rfl ?_
      refine mt_124_1 hJ hov1 hov2 (d := d) (x2 := x4) K.1 (by first | omega | decide) (fun hh17 K18 => ?_)
      have K19 := xk_tr K K18 rfl
      refine xp_66 K19.1 (fun u21 wl20 bu21 A22 => ?_)
      have e23 : u11 = u21 := xk_eqi (q := 8) K18 rfl A12 A22 rfl rfl
      subst e23
      show xw J ov (d + 5) 141 (45, [(0, .ref 66), (2, .int x2), (3, .int x3), (4, .int x4)], [], hh17) _
      refine xcps2 (α := Int32) (x4 + 1) (fun v24 ev24 => ?_)
      have zv24 : v24.toInt = (x4.toInt + 1) := by rw [← ev24]; exact (xz_add (X := x4.toInt) (Y := 1) rfl (by decide) (by omega) (by omega)).trans (by omega)
      refine xi_iinc (pc' := 48) (x := x4) (v := v24) (lv' := [(4, .int v24), (0, .ref 66), (2, .int x2), (3, .int x3)]) kc_141_45 rfl rfl ev24 rfl (xm_lt ml_141 rfl) ?_
      refine xi_goto (pc' := 18) kc_141_48 rfl ?_
      refine xw_lv (b := [(0, .ref 66), (2, .int x2), (3, .int x3), (4, .int v24)]) (lvS_cons (lvS_cons (lvS_cons (lvS_cons (lvS_nil (show ([4, 0, 2, 3] : List Nat).Nodup by decide)) rfl) rfl) rfl) rfl) ?_
      exact i0 x2 x3 v24 hh17 (by omega) (by omega) (by omega) K19 (by omega)
set_option maxHeartbeats 4000000 in
theorem mt_141_0 {J : xe_J} {ov : List (List Int32)} (hJ : ∀ d mj as h, mj ≠ xe_loff → J d mj as h = none) (hov1 : ov[1]? = some [10, 0, 0, 0, 0, 0]) (hov2 : ov[2]? = some [99, 30, 50, 50, 1, 99999]) {d : Nat} {Q : Option Value → xe_H → Prop} {h : xe_H} {x1 : Int32} {x2 : Int32} {x3 : Int32} (T : xt h) (b1 : (0 ≤ x1.toInt ∧ x1.toInt ≤ 63)) (b2 : (0 ≤ x2.toInt ∧ x2.toInt ≤ 11)) (b3 : (0 ≤ x3.toInt ∧ x3.toInt ≤ 600)) (kk : (∀ (r : Int32) (h' : xe_H), xk [(0, 9), (115, 1), (83, 0), (29, 0), (31, 0), (33, 0), (35, 0), (37, 0), (39, 0), (41, 0), (43, 0), (45, 0), (47, 0), (49, 0), (51, 0), (125, 0), (66, 8), (115, 18), (71, 0), (132, 0)] h h' → Q (some (.int r)) h')) : xw J ov (d + 5) 141 (0, [(0, .ref 66), (1, .int x1), (2, .int x2), (3, .int x3)], [], h) Q := by
  have K : xk [(0, 9), (115, 1), (83, 0), (29, 0), (31, 0), (33, 0), (35, 0), (37, 0), (39, 0), (41, 0), (43, 0), (45, 0), (47, 0), (49, 0), (51, 0), (125, 0), (66, 8), (115, 18), (71, 0), (132, 0)] h h := xk_re T
  refine xi_aload_n (pc' := 1) (x := 66) kc_141_0 rfl rfl ?_
  refine xp_66 K.1 (fun u2 wl1 bu2 A3 => ?_)
  refine xi_getfield (pc' := 4) (v := .ref 67) kc_141_1 rfl rfl rfl A3 rfl ?_
  refine xi_iload_n (pc' := 5) (x := x1) kc_141_4 rfl rfl ?_
  refine xi_aload_n (pc' := 6) (x := 66) kc_141_5 rfl rfl ?_
  refine xi_getfield (pc' := 9) (v := .ref 1) kc_141_6 rfl rfl rfl A3 rfl ?_
  refine xp_1 K.1 (fun u4 u5 bu4 bu5 A6 => ?_)
  refine xi_virtual (mj := 142) (as := []) (st1 := [.int x1, .ref 67]) (lv0 := [(0, .ref 1)]) kc_141_9 rfl rfl rfl rfl rfl A6 (Nat.le_of_ble_eq_true rfl) (hJ _ _ _ _ (by decide)) (xm_le ml_142 rfl) rfl ?_
  refine mt_142_0 hJ hov1 hov2 (d := d + 2)  K.1 (fun r7 hh8 K9 => ?_)
  have br7 := xc_rng r7
  have K10 := xk_tr K K9 rfl
  refine xp_66 K10.1 (fun u12 wl11 bu12 A13 => ?_)
  have e14 : u2 = u12 := xk_eqi (q := 8) K9 rfl A3 A13 rfl rfl
  subst e14
  show xw J ov (d + 5) 141 (12, [(0, .ref 66), (1, .int x1), (2, .int x2), (3, .int x3)], [.int r7, .int x1, .ref 67], hh8) _
  refine xp_67 K10.1 (fun u15 u16 bu15 bu16 A17 => ?_)
  refine xi_virtual (mj := 143) (as := [.int x1, .int r7]) (st1 := []) (lv0 := [(0, .ref 67), (1, .int x1), (2, .int r7)]) kc_141_12 rfl rfl rfl rfl rfl A17 (Nat.le_of_ble_eq_true rfl) (hJ _ _ _ _ (by decide)) (xm_le ml_143 rfl) rfl ?_
  refine mt_143_0 hJ hov1 hov2 (d := d + 3) (x1 := x1) (x2 := r7) K10.1 (by first | omega | decide) (fun hh19 K20 => ?_)
  have K21 := xk_tr K10 K20 rfl
  refine xp_66 K21.1 (fun u23 wl22 bu23 A24 => ?_)
  have e25 : u2 = u23 := xk_eqi (q := 8) K20 rfl A13 A24 rfl rfl
  subst e25
  show xw J ov (d + 5) 141 (15, [(0, .ref 66), (1, .int x1), (2, .int x2), (3, .int x3)], [], hh19) _
  refine xi_iconst (pc' := 16) (v := 0) kc_141_15 rfl rfl ?_
  refine xi_istore (pc' := 18) (lv' := [(4, .int 0), (0, .ref 66), (1, .int x1), (2, .int x2), (3, .int x3)]) kc_141_16 rfl rfl (xm_lt ml_141 rfl) ?_
  have zc0 : (0 : Int32).toInt = 0 := by decide
  refine xw_lv (b := [(0, .ref 66), (2, .int x2), (3, .int x3), (4, .int 0)]) (lvS_cons (lvS_cons (lvS_cons (lvS_cons (lvS_nil (show ([4, 0, 1, 2, 3] : List Nat).Nodup by decide)) rfl) rfl) rfl) rfl) ?_
  exact (lp_141_0 hJ hov1 hov2 (d := d) (hb := hh19) (fun r9 h9 K9 => kk r9 h9 (xk_tr K21 K9 rfl)) 601) x2 x3 0 hh19 (by omega) (by omega) (by omega) (xk_re K21.1) (by omega)
set_option maxHeartbeats 4000000 in
theorem mt_137_0 {J : xe_J} {ov : List (List Int32)} (hJ : ∀ d mj as h, mj ≠ xe_loff → J d mj as h = none) (hov1 : ov[1]? = some [10, 0, 0, 0, 0, 0]) (hov2 : ov[2]? = some [99, 30, 50, 50, 1, 99999]) {d : Nat} {Q : Option Value → xe_H → Prop} {h : xe_H} {x1 : Int32} {x2 : Int32} (T : xt h) (kk : (∀ (r : Int32) (h' : xe_H), xk [(0, 9), (115, 1), (83, 0), (29, 0), (31, 0), (33, 0), (35, 0), (37, 0), (39, 0), (41, 0), (43, 0), (45, 0), (47, 0), (49, 0), (51, 0), (125, 0), (66, 8), (115, 18), (71, 0), (132, 0)] h h' → Q (some (.int r)) h')) : xw J ov (d + 6) 137 (0, [(0, .ref 0), (1, .int x1), (2, .int x2)], [], h) Q := by
  have K : xk [(0, 9), (115, 1), (83, 0), (29, 0), (31, 0), (33, 0), (35, 0), (37, 0), (39, 0), (41, 0), (43, 0), (45, 0), (47, 0), (49, 0), (51, 0), (125, 0), (66, 8), (115, 18), (71, 0), (132, 0)] h h := xk_re T
  have rx1 := xc_rng x1
  have rx2 := xc_rng x2
  refine xi_aload_n (pc' := 1) (x := 0) kc_137_0 rfl rfl ?_
  refine xp_0 K.1 (fun u1 u2 bu1 bu2 A3 => ?_)
  refine xi_getfield (pc' := 4) (v := .ref 1) kc_137_1 rfl rfl rfl A3 rfl ?_
  refine xi_iload_n (pc' := 5) (x := x2) kc_137_4 rfl rfl ?_
  refine xp_1 K.1 (fun u4 u5 bu4 bu5 A6 => ?_)
  refine xi_virtual (mj := 108) (as := [.int x2]) (st1 := []) (lv0 := [(0, .ref 1), (1, .int x2)]) kc_137_5 rfl rfl rfl rfl rfl A6 (Nat.le_of_ble_eq_true rfl) (hJ _ _ _ _ (by decide)) (xm_le ml_108 rfl) rfl ?_
  refine xi_iload_n (pc' := 1) (x := x2) kc_108_0 rfl rfl ?_
  refine xi_static (mj := 104) (as := [.int x2]) (st1 := []) (lv0 := [(0, .int x2)]) kc_108_1 rfl rfl (Nat.le_of_ble_eq_true rfl) rfl rfl (Nat.le_of_ble_eq_true rfl) (hJ _ _ _ _ (by decide)) (xm_le ml_104 rfl) rfl ?_
  refine xi_iload_n (pc' := 1) (x := x2) kc_104_0 rfl rfl ?_
  by_cases c7 : x2.toInt < 0
  · refine xi_ift (pc' := 14) kc_104_1 rfl (xc_lt_t (X := x2.toInt) (Y := 0) rfl (by decide) (by omega)) ?_
    refine xi_iconst (pc' := 15) (v := 0) kc_104_14 rfl rfl ?_
    refine xi_ireturn kc_104_15 mr_104 rfl ?_
    show xw J ov (d + 5) 108 (4, [(0, .ref 1), (1, .int x2)], [.int 0], h) _
    refine xi_ift (pc' := 23) kc_108_4 rfl rfl ?_
    refine xi_iconst (pc' := 24) (v := 0) kc_108_23 rfl rfl ?_
    refine xi_ireturn kc_108_24 mr_108 rfl ?_
    show xw J ov (d + 6) 137 (8, [(0, .ref 0), (1, .int x1), (2, .int x2)], [.int 0], h) _
    refine xi_iff (pc' := 11) kc_137_8 rfl rfl ?_
    refine xi_aload_n (pc' := 12) (x := 0) kc_137_11 rfl rfl ?_
    refine xi_iconst (pc' := 13) (v := (-1)) kc_137_12 rfl rfl ?_
    refine xi_virtual (mj := 90) (as := [.int (-1)]) (st1 := []) (lv0 := [(0, .ref 0), (1, .int (-1))]) kc_137_13 rfl rfl rfl rfl rfl A3 (Nat.le_of_ble_eq_true rfl) (hJ _ _ _ _ (by decide)) (xm_le ml_90 rfl) rfl ?_
    refine xi_iload_n (pc' := 1) (x := (-1)) kc_90_0 rfl rfl ?_
    refine xi_ineg (pc' := 2) (v := 1) kc_90_1 rfl rfl ?_
    refine xi_istore_n (pc' := 3) (lv' := [(2, .int 1), (0, .ref 0), (1, .int (-1))]) kc_90_2 rfl rfl (xm_lt ml_90 rfl) ?_
    refine xi_iload_n (pc' := 4) (x := 1) kc_90_3 rfl rfl ?_
    refine xi_iff (pc' := 7) kc_90_4 rfl rfl ?_
    refine xi_iload_n (pc' := 8) (x := 1) kc_90_7 rfl rfl ?_
    refine xi_aload_n (pc' := 9) (x := 0) kc_90_8 rfl rfl ?_
    refine xi_getfield (pc' := 12) (v := .ref 94) kc_90_9 rfl rfl rfl A3 rfl ?_
    refine xcps4 (xk_arr K.1 xD_94) (fun y8 A8 hy8 ry8 => ?_)
    refine xi_arraylength (pc' := 13) (n := 7) (v := 7) kc_90_12 rfl (xl_lenI (by decide) (by decide) A8 hy8) rfl ?_
    refine xi_cmf (pc' := 16) kc_90_13 rfl rfl ?_
    refine xi_aload_n (pc' := 17) (x := 0) kc_90_16 rfl rfl ?_
    refine xi_getfield (pc' := 20) (v := .ref 94) kc_90_17 rfl rfl rfl A3 rfl ?_
    refine xi_iload_n (pc' := 21) (x := 1) kc_90_20 rfl rfl ?_
    refine xi_dup2 (pc' := 22) kc_90_21 rfl ⟨rfl, rfl⟩ ?_
    refine xcps4 (xj_get hy8 ry8 (i := 1) (by decide) (by decide)) (fun v9 ev9 bv9 dv9 => ?_)
    refine xi_iaload (pc' := 23) (v := v9) kc_90_22 rfl A8 (by decide) rfl (xi_in (by decide) (by rw [hy8]; decide)) ev9 ?_
    refine xi_iconst (pc' := 24) (v := 1) kc_90_23 rfl rfl ?_
    refine xcps2 (α := Int32) ((v9 : Int32) + 1) (fun v10 ev10 => ?_)
    have rv10 := xc_rng v10
    refine xi_iadd (pc' := 25) (v := v10) kc_90_24 rfl ev10 ?_
    refine xcps4 (xj_set (v := v10) hy8 ry8 1 (by first | omega | decide) (by first | omega | decide)) (fun y11 s11 hy11 ry11 => ?_)
    refine xi_iastore (pc' := 26) (x' := y11) kc_90_25 rfl A8 rfl (xi_in (by decide) (by rw [hy8]; decide)) s11 (fun hh11 eh11 => ?_)
    have K12 := xk_pa K (xk_wa rfl) xD_94 hy11 ry11 eh11
    refine xi_iload_n (pc' := 27) (x := (-1)) kc_90_26 rfl rfl ?_
    refine xi_ireturn kc_90_27 mr_90 rfl ?_
    show xw J ov (d + 6) 137 (16, [(0, .ref 0), (1, .int x1), (2, .int x2)], [.int (-1)], hh11) _
    refine xi_ireturn kc_137_16 mr_137 rfl ?_
    have zcm1 : ((-1) : Int32).toInt = (-1) := by decide
    exact kk (-1) hh11 K12
  · refine xi_iff (pc' := 4) kc_104_1 rfl (xc_lt_f (X := x2.toInt) (Y := 0) rfl (by decide) (by omega)) ?_
    refine xi_iload_n (pc' := 5) (x := x2) kc_104_4 rfl rfl ?_
    refine xi_bipush (pc' := 7) (v := 12) kc_104_5 rfl rfl ?_
    by_cases c13 : 12 ≤ x2.toInt
    · refine xi_cmt (pc' := 14) kc_104_7 rfl (xc_ge_t (X := x2.toInt) (Y := 12) rfl (by decide) (by omega)) ?_
      refine xi_iconst (pc' := 15) (v := 0) kc_104_14 rfl rfl ?_
      refine xi_ireturn kc_104_15 mr_104 rfl ?_
      show xw J ov (d + 5) 108 (4, [(0, .ref 1), (1, .int x2)], [.int 0], h) _
      refine xi_ift (pc' := 23) kc_108_4 rfl rfl ?_
      refine xi_iconst (pc' := 24) (v := 0) kc_108_23 rfl rfl ?_
      refine xi_ireturn kc_108_24 mr_108 rfl ?_
      show xw J ov (d + 6) 137 (8, [(0, .ref 0), (1, .int x1), (2, .int x2)], [.int 0], h) _
      refine xi_iff (pc' := 11) kc_137_8 rfl rfl ?_
      refine xi_aload_n (pc' := 12) (x := 0) kc_137_11 rfl rfl ?_
      refine xi_iconst (pc' := 13) (v := (-1)) kc_137_12 rfl rfl ?_
      refine xi_virtual (mj := 90) (as := [.int (-1)]) (st1 := []) (lv0 := [(0, .ref 0), (1, .int (-1))]) kc_137_13 rfl rfl rfl rfl rfl A3 (Nat.le_of_ble_eq_true rfl) (hJ _ _ _ _ (by decide)) (xm_le ml_90 rfl) rfl ?_
      refine xi_iload_n (pc' := 1) (x := (-1)) kc_90_0 rfl rfl ?_
      refine xi_ineg (pc' := 2) (v := 1) kc_90_1 rfl rfl ?_
      refine xi_istore_n (pc' := 3) (lv' := [(2, .int 1), (0, .ref 0), (1, .int (-1))]) kc_90_2 rfl rfl (xm_lt ml_90 rfl) ?_
      refine xi_iload_n (pc' := 4) (x := 1) kc_90_3 rfl rfl ?_
      refine xi_iff (pc' := 7) kc_90_4 rfl rfl ?_
      refine xi_iload_n (pc' := 8) (x := 1) kc_90_7 rfl rfl ?_
      refine xi_aload_n (pc' := 9) (x := 0) kc_90_8 rfl rfl ?_
      refine xi_getfield (pc' := 12) (v := .ref 94) kc_90_9 rfl rfl rfl A3 rfl ?_
      refine xcps4 (xk_arr K.1 xD_94) (fun y14 A14 hy14 ry14 => ?_)
      refine xi_arraylength (pc' := 13) (n := 7) (v := 7) kc_90_12 rfl (xl_lenI (by decide) (by decide) A14 hy14) rfl ?_
      refine xi_cmf (pc' := 16) kc_90_13 rfl rfl ?_
      refine xi_aload_n (pc' := 17) (x := 0) kc_90_16 rfl rfl ?_
      refine xi_getfield (pc' := 20) (v := .ref 94) kc_90_17 rfl rfl rfl A3 rfl ?_
      refine xi_iload_n (pc' := 21) (x := 1) kc_90_20 rfl rfl ?_
      refine xi_dup2 (pc' := 22) kc_90_21 rfl ⟨rfl, rfl⟩ ?_
      refine xcps4 (xj_get hy14 ry14 (i := 1) (by decide) (by decide)) (fun v15 ev15 bv15 dv15 => ?_)
      refine xi_iaload (pc' := 23) (v := v15) kc_90_22 rfl A14 (by decide) rfl (xi_in (by decide) (by rw [hy14]; decide)) ev15 ?_
      refine xi_iconst (pc' := 24) (v := 1) kc_90_23 rfl rfl ?_
      refine xcps2 (α := Int32) ((v15 : Int32) + 1) (fun v16 ev16 => ?_)
      have rv16 := xc_rng v16
      refine xi_iadd (pc' := 25) (v := v16) kc_90_24 rfl ev16 ?_
      refine xcps4 (xj_set (v := v16) hy14 ry14 1 (by first | omega | decide) (by first | omega | decide)) (fun y17 s17 hy17 ry17 => ?_)
      refine xi_iastore (pc' := 26) (x' := y17) kc_90_25 rfl A14 rfl (xi_in (by decide) (by rw [hy14]; decide)) s17 (fun hh17 eh17 => ?_)
      have K18 := xk_pa K (xk_wa rfl) xD_94 hy17 ry17 eh17
      refine xi_iload_n (pc' := 27) (x := (-1)) kc_90_26 rfl rfl ?_
      refine xi_ireturn kc_90_27 mr_90 rfl ?_
      show xw J ov (d + 6) 137 (16, [(0, .ref 0), (1, .int x1), (2, .int x2)], [.int (-1)], hh17) _
      refine xi_ireturn kc_137_16 mr_137 rfl ?_
      have zcm1 : ((-1) : Int32).toInt = (-1) := by decide
      exact kk (-1) hh17 K18
    · refine xi_cmf (pc' := 10) kc_104_7 rfl (xc_ge_f (X := x2.toInt) (Y := 12) rfl (by decide) (by omega)) ?_
      refine xi_iconst (pc' := 11) (v := 1) kc_104_10 rfl rfl ?_
      refine xi_goto (pc' := 15) kc_104_11 rfl ?_
      refine xi_ireturn kc_104_15 mr_104 rfl ?_
      show xw J ov (d + 5) 108 (4, [(0, .ref 1), (1, .int x2)], [.int 1], h) _
      refine xi_iff (pc' := 7) kc_108_4 rfl rfl ?_
      refine xi_aload_n (pc' := 8) (x := 1) kc_108_7 rfl rfl ?_
      refine xi_getfield (pc' := 11) (v := .ref 3) kc_108_8 rfl rfl rfl A6 rfl ?_
      refine xi_iload_n (pc' := 12) (x := x2) kc_108_11 rfl rfl ?_
      have A19 := xk_ex K.1 xD_3
      obtain ⟨pt20, ept20, mpt20⟩ := xR_3 (i := x2) (by omega) (by omega)
      refine xj_aaload (pc' := 13) (b := pt20) kc_108_12 rfl A19 rfl (xi_in (n := 12) (by omega) (by omega)) ept20 ?_
      obtain ⟨u21, u22, u23, u24, pt25, bu21, bu22, bu23, bu24, mpt25, A26⟩ := xg_wall K.1 mpt20
      refine xi_virtual (mj := 105) (as := []) (st1 := []) (lv0 := [(0, .ref pt20)]) kc_108_13 rfl rfl rfl rfl rfl A26 (Nat.le_of_ble_eq_true rfl) (hJ _ _ _ _ (by decide)) (xm_le ml_105 rfl) rfl ?_
      refine xi_aload_n (pc' := 1) (x := pt20) kc_105_0 rfl rfl ?_
      refine xi_getfield (pc' := 4) (v := .int u21) kc_105_1 rfl rfl rfl A26 rfl ?_
      refine xi_static (mj := 89) (as := [.int u21]) (st1 := []) (lv0 := [(0, .int u21)]) kc_105_4 rfl rfl (Nat.le_of_ble_eq_true rfl) rfl rfl (Nat.le_of_ble_eq_true rfl) (hJ _ _ _ _ (by decide)) (xm_le ml_89 rfl) rfl ?_
      refine xi_iload_n (pc' := 1) (x := u21) kc_89_0 rfl rfl ?_
      by_cases c27 : u21.toInt < 0
      · refine xi_ift (pc' := 14) kc_89_1 rfl (xc_lt_t (X := u21.toInt) (Y := 0) rfl (by decide) (by omega)) ?_
        refine xi_iconst (pc' := 15) (v := 0) kc_89_14 rfl rfl ?_
        refine xi_ireturn kc_89_15 mr_89 rfl ?_
        show xw J ov (d + 4) 105 (7, [(0, .ref pt20)], [.int 0], h) _
        refine xi_ireturn kc_105_7 mr_105 rfl ?_
        show xw J ov (d + 5) 108 (16, [(0, .ref 1), (1, .int x2)], [.int 0], h) _
        refine xi_ift (pc' := 23) kc_108_16 rfl rfl ?_
        refine xi_iconst (pc' := 24) (v := 0) kc_108_23 rfl rfl ?_
        refine xi_ireturn kc_108_24 mr_108 rfl ?_
        show xw J ov (d + 6) 137 (8, [(0, .ref 0), (1, .int x1), (2, .int x2)], [.int 0], h) _
        refine xi_iff (pc' := 11) kc_137_8 rfl rfl ?_
        refine xi_aload_n (pc' := 12) (x := 0) kc_137_11 rfl rfl ?_
        refine xi_iconst (pc' := 13) (v := (-1)) kc_137_12 rfl rfl ?_
        refine xi_virtual (mj := 90) (as := [.int (-1)]) (st1 := []) (lv0 := [(0, .ref 0), (1, .int (-1))]) kc_137_13 rfl rfl rfl rfl rfl A3 (Nat.le_of_ble_eq_true rfl) (hJ _ _ _ _ (by decide)) (xm_le ml_90 rfl) rfl ?_
        refine xi_iload_n (pc' := 1) (x := (-1)) kc_90_0 rfl rfl ?_
        refine xi_ineg (pc' := 2) (v := 1) kc_90_1 rfl rfl ?_
        refine xi_istore_n (pc' := 3) (lv' := [(2, .int 1), (0, .ref 0), (1, .int (-1))]) kc_90_2 rfl rfl (xm_lt ml_90 rfl) ?_
        refine xi_iload_n (pc' := 4) (x := 1) kc_90_3 rfl rfl ?_
        refine xi_iff (pc' := 7) kc_90_4 rfl rfl ?_
        refine xi_iload_n (pc' := 8) (x := 1) kc_90_7 rfl rfl ?_
        refine xi_aload_n (pc' := 9) (x := 0) kc_90_8 rfl rfl ?_
        refine xi_getfield (pc' := 12) (v := .ref 94) kc_90_9 rfl rfl rfl A3 rfl ?_
        refine xcps4 (xk_arr K.1 xD_94) (fun y28 A28 hy28 ry28 => ?_)
        refine xi_arraylength (pc' := 13) (n := 7) (v := 7) kc_90_12 rfl (xl_lenI (by decide) (by decide) A28 hy28) rfl ?_
        refine xi_cmf (pc' := 16) kc_90_13 rfl rfl ?_
        refine xi_aload_n (pc' := 17) (x := 0) kc_90_16 rfl rfl ?_
        refine xi_getfield (pc' := 20) (v := .ref 94) kc_90_17 rfl rfl rfl A3 rfl ?_
        refine xi_iload_n (pc' := 21) (x := 1) kc_90_20 rfl rfl ?_
        refine xi_dup2 (pc' := 22) kc_90_21 rfl ⟨rfl, rfl⟩ ?_
        refine xcps4 (xj_get hy28 ry28 (i := 1) (by decide) (by decide)) (fun v29 ev29 bv29 dv29 => ?_)
        refine xi_iaload (pc' := 23) (v := v29) kc_90_22 rfl A28 (by decide) rfl (xi_in (by decide) (by rw [hy28]; decide)) ev29 ?_
        refine xi_iconst (pc' := 24) (v := 1) kc_90_23 rfl rfl ?_
        refine xcps2 (α := Int32) ((v29 : Int32) + 1) (fun v30 ev30 => ?_)
        have rv30 := xc_rng v30
        refine xi_iadd (pc' := 25) (v := v30) kc_90_24 rfl ev30 ?_
        refine xcps4 (xj_set (v := v30) hy28 ry28 1 (by first | omega | decide) (by first | omega | decide)) (fun y31 s31 hy31 ry31 => ?_)
        refine xi_iastore (pc' := 26) (x' := y31) kc_90_25 rfl A28 rfl (xi_in (by decide) (by rw [hy28]; decide)) s31 (fun hh31 eh31 => ?_)
        have K32 := xk_pa K (xk_wa rfl) xD_94 hy31 ry31 eh31
        refine xi_iload_n (pc' := 27) (x := (-1)) kc_90_26 rfl rfl ?_
        refine xi_ireturn kc_90_27 mr_90 rfl ?_
        show xw J ov (d + 6) 137 (16, [(0, .ref 0), (1, .int x1), (2, .int x2)], [.int (-1)], hh31) _
        refine xi_ireturn kc_137_16 mr_137 rfl ?_
        have zcm1 : ((-1) : Int32).toInt = (-1) := by decide
        exact kk (-1) hh31 K32
      · refine xi_iff (pc' := 4) kc_89_1 rfl (xc_lt_f (X := u21.toInt) (Y := 0) rfl (by decide) (by omega)) ?_
        refine xi_iload_n (pc' := 5) (x := u21) kc_89_4 rfl rfl ?_
        refine xi_bipush (pc' := 7) (v := 6) kc_89_5 rfl rfl ?_
        by_cases c33 : 6 ≤ u21.toInt
        · refine xi_cmt (pc' := 14) kc_89_7 rfl (xc_ge_t (X := u21.toInt) (Y := 6) rfl (by decide) (by omega)) ?_
          refine xi_iconst (pc' := 15) (v := 0) kc_89_14 rfl rfl ?_
          refine xi_ireturn kc_89_15 mr_89 rfl ?_
          show xw J ov (d + 4) 105 (7, [(0, .ref pt20)], [.int 0], h) _
          refine xi_ireturn kc_105_7 mr_105 rfl ?_
          show xw J ov (d + 5) 108 (16, [(0, .ref 1), (1, .int x2)], [.int 0], h) _
          refine xi_ift (pc' := 23) kc_108_16 rfl rfl ?_
          refine xi_iconst (pc' := 24) (v := 0) kc_108_23 rfl rfl ?_
          refine xi_ireturn kc_108_24 mr_108 rfl ?_
          show xw J ov (d + 6) 137 (8, [(0, .ref 0), (1, .int x1), (2, .int x2)], [.int 0], h) _
          refine xi_iff (pc' := 11) kc_137_8 rfl rfl ?_
          refine xi_aload_n (pc' := 12) (x := 0) kc_137_11 rfl rfl ?_
          refine xi_iconst (pc' := 13) (v := (-1)) kc_137_12 rfl rfl ?_
          refine xi_virtual (mj := 90) (as := [.int (-1)]) (st1 := []) (lv0 := [(0, .ref 0), (1, .int (-1))]) kc_137_13 rfl rfl rfl rfl rfl A3 (Nat.le_of_ble_eq_true rfl) (hJ _ _ _ _ (by decide)) (xm_le ml_90 rfl) rfl ?_
          refine xi_iload_n (pc' := 1) (x := (-1)) kc_90_0 rfl rfl ?_
          refine xi_ineg (pc' := 2) (v := 1) kc_90_1 rfl rfl ?_
          refine xi_istore_n (pc' := 3) (lv' := [(2, .int 1), (0, .ref 0), (1, .int (-1))]) kc_90_2 rfl rfl (xm_lt ml_90 rfl) ?_
          refine xi_iload_n (pc' := 4) (x := 1) kc_90_3 rfl rfl ?_
          refine xi_iff (pc' := 7) kc_90_4 rfl rfl ?_
          refine xi_iload_n (pc' := 8) (x := 1) kc_90_7 rfl rfl ?_
          refine xi_aload_n (pc' := 9) (x := 0) kc_90_8 rfl rfl ?_
          refine xi_getfield (pc' := 12) (v := .ref 94) kc_90_9 rfl rfl rfl A3 rfl ?_
          refine xcps4 (xk_arr K.1 xD_94) (fun y34 A34 hy34 ry34 => ?_)
          refine xi_arraylength (pc' := 13) (n := 7) (v := 7) kc_90_12 rfl (xl_lenI (by decide) (by decide) A34 hy34) rfl ?_
          refine xi_cmf (pc' := 16) kc_90_13 rfl rfl ?_
          refine xi_aload_n (pc' := 17) (x := 0) kc_90_16 rfl rfl ?_
          refine xi_getfield (pc' := 20) (v := .ref 94) kc_90_17 rfl rfl rfl A3 rfl ?_
          refine xi_iload_n (pc' := 21) (x := 1) kc_90_20 rfl rfl ?_
          refine xi_dup2 (pc' := 22) kc_90_21 rfl ⟨rfl, rfl⟩ ?_
          refine xcps4 (xj_get hy34 ry34 (i := 1) (by decide) (by decide)) (fun v35 ev35 bv35 dv35 => ?_)
          refine xi_iaload (pc' := 23) (v := v35) kc_90_22 rfl A34 (by decide) rfl (xi_in (by decide) (by rw [hy34]; decide)) ev35 ?_
          refine xi_iconst (pc' := 24) (v := 1) kc_90_23 rfl rfl ?_
          refine xcps2 (α := Int32) ((v35 : Int32) + 1) (fun v36 ev36 => ?_)
          have rv36 := xc_rng v36
          refine xi_iadd (pc' := 25) (v := v36) kc_90_24 rfl ev36 ?_
          refine xcps4 (xj_set (v := v36) hy34 ry34 1 (by first | omega | decide) (by first | omega | decide)) (fun y37 s37 hy37 ry37 => ?_)
          refine xi_iastore (pc' := 26) (x' := y37) kc_90_25 rfl A34 rfl (xi_in (by decide) (by rw [hy34]; decide)) s37 (fun hh37 eh37 => ?_)
          have K38 := xk_pa K (xk_wa rfl) xD_94 hy37 ry37 eh37
          refine xi_iload_n (pc' := 27) (x := (-1)) kc_90_26 rfl rfl ?_
          refine xi_ireturn kc_90_27 mr_90 rfl ?_
          show xw J ov (d + 6) 137 (16, [(0, .ref 0), (1, .int x1), (2, .int x2)], [.int (-1)], hh37) _
          refine xi_ireturn kc_137_16 mr_137 rfl ?_
          have zcm1 : ((-1) : Int32).toInt = (-1) := by decide
          exact kk (-1) hh37 K38
        · refine xi_cmf (pc' := 10) kc_89_7 rfl (xc_ge_f (X := u21.toInt) (Y := 6) rfl (by decide) (by omega)) ?_
          refine xi_iconst (pc' := 11) (v := 1) kc_89_10 rfl rfl ?_
          refine xi_goto (pc' := 15) kc_89_11 rfl ?_
          refine xi_ireturn kc_89_15 mr_89 rfl ?_
          show xw J ov (d + 4) 105 (7, [(0, .ref pt20)], [.int 1], h) _
          refine xi_ireturn kc_105_7 mr_105 rfl ?_
          show xw J ov (d + 5) 108 (16, [(0, .ref 1), (1, .int x2)], [.int 1], h) _
          refine xi_iff (pc' := 19) kc_108_16 rfl rfl ?_
          refine xi_iconst (pc' := 20) (v := 1) kc_108_19 rfl rfl ?_
          refine xi_goto (pc' := 24) kc_108_20 rfl ?_
          refine xi_ireturn kc_108_24 mr_108 rfl ?_
          show xw J ov (d + 6) 137 (8, [(0, .ref 0), (1, .int x1), (2, .int x2)], [.int 1], h) _
          refine xi_ift (pc' := 17) kc_137_8 rfl rfl ?_
          refine xi_aload_n (pc' := 18) (x := 0) kc_137_17 rfl rfl ?_
          refine xi_getfield (pc' := 21) (v := .ref 66) kc_137_18 rfl rfl rfl A3 rfl ?_
          refine xi_iload_n (pc' := 22) (x := x1) kc_137_21 rfl rfl ?_
          refine xp_66 K.1 (fun u40 wl39 bu40 A41 => ?_)
          refine xi_virtual (mj := 138) (as := [.int x1]) (st1 := []) (lv0 := [(0, .ref 66), (1, .int x1)]) kc_137_22 rfl rfl rfl rfl rfl A41 (Nat.le_of_ble_eq_true rfl) (hJ _ _ _ _ (by decide)) (xm_le ml_138 rfl) rfl ?_
          refine xi_iload_n (pc' := 1) (x := x1) kc_138_0 rfl rfl ?_
          by_cases c42 : x1.toInt < 0
          · refine xi_ift (pc' := 16) kc_138_1 rfl (xc_lt_t (X := x1.toInt) (Y := 0) rfl (by decide) (by omega)) ?_
            refine xi_iconst (pc' := 17) (v := 0) kc_138_16 rfl rfl ?_
            refine xi_ireturn kc_138_17 mr_138 rfl ?_
            show xw J ov (d + 6) 137 (25, [(0, .ref 0), (1, .int x1), (2, .int x2)], [.int 0], h) _
            refine xi_iff (pc' := 28) kc_137_25 rfl rfl ?_
            refine xi_aload_n (pc' := 29) (x := 0) kc_137_28 rfl rfl ?_
            refine xi_bipush (pc' := 31) (v := (-2)) kc_137_29 rfl rfl ?_
            refine xi_virtual (mj := 90) (as := [.int (-2)]) (st1 := []) (lv0 := [(0, .ref 0), (1, .int (-2))]) kc_137_31 rfl rfl rfl rfl rfl A3 (Nat.le_of_ble_eq_true rfl) (hJ _ _ _ _ (by decide)) (xm_le ml_90 rfl) rfl ?_
            refine xi_iload_n (pc' := 1) (x := (-2)) kc_90_0 rfl rfl ?_
            refine xi_ineg (pc' := 2) (v := 2) kc_90_1 rfl rfl ?_
            refine xi_istore_n (pc' := 3) (lv' := [(2, .int 2), (0, .ref 0), (1, .int (-2))]) kc_90_2 rfl rfl (xm_lt ml_90 rfl) ?_
            refine xi_iload_n (pc' := 4) (x := 2) kc_90_3 rfl rfl ?_
            refine xi_iff (pc' := 7) kc_90_4 rfl rfl ?_
            refine xi_iload_n (pc' := 8) (x := 2) kc_90_7 rfl rfl ?_
            refine xi_aload_n (pc' := 9) (x := 0) kc_90_8 rfl rfl ?_
            refine xi_getfield (pc' := 12) (v := .ref 94) kc_90_9 rfl rfl rfl A3 rfl ?_
            refine xcps4 (xk_arr K.1 xD_94) (fun y43 A43 hy43 ry43 => ?_)
            refine xi_arraylength (pc' := 13) (n := 7) (v := 7) kc_90_12 rfl (xl_lenI (by decide) (by decide) A43 hy43) rfl ?_
            refine xi_cmf (pc' := 16) kc_90_13 rfl rfl ?_
            refine xi_aload_n (pc' := 17) (x := 0) kc_90_16 rfl rfl ?_
            refine xi_getfield (pc' := 20) (v := .ref 94) kc_90_17 rfl rfl rfl A3 rfl ?_
            refine xi_iload_n (pc' := 21) (x := 2) kc_90_20 rfl rfl ?_
            refine xi_dup2 (pc' := 22) kc_90_21 rfl ⟨rfl, rfl⟩ ?_
            refine xcps4 (xj_get hy43 ry43 (i := 2) (by decide) (by decide)) (fun v44 ev44 bv44 dv44 => ?_)
            refine xi_iaload (pc' := 23) (v := v44) kc_90_22 rfl A43 (by decide) rfl (xi_in (by decide) (by rw [hy43]; decide)) ev44 ?_
            refine xi_iconst (pc' := 24) (v := 1) kc_90_23 rfl rfl ?_
            refine xcps2 (α := Int32) ((v44 : Int32) + 1) (fun v45 ev45 => ?_)
            have rv45 := xc_rng v45
            refine xi_iadd (pc' := 25) (v := v45) kc_90_24 rfl ev45 ?_
            refine xcps4 (xj_set (v := v45) hy43 ry43 2 (by first | omega | decide) (by first | omega | decide)) (fun y46 s46 hy46 ry46 => ?_)
            refine xi_iastore (pc' := 26) (x' := y46) kc_90_25 rfl A43 rfl (xi_in (by decide) (by rw [hy43]; decide)) s46 (fun hh46 eh46 => ?_)
            have K47 := xk_pa K (xk_wa rfl) xD_94 hy46 ry46 eh46
            refine xi_iload_n (pc' := 27) (x := (-2)) kc_90_26 rfl rfl ?_
            refine xi_ireturn kc_90_27 mr_90 rfl ?_
            show xw J ov (d + 6) 137 (34, [(0, .ref 0), (1, .int x1), (2, .int x2)], [.int (-2)], hh46) _
            refine xi_ireturn kc_137_34 mr_137 rfl ?_
            have zcm2 : ((-2) : Int32).toInt = (-2) := by decide
            exact kk (-2) hh46 K47
          · refine xi_iff (pc' := 4) kc_138_1 rfl (xc_lt_f (X := x1.toInt) (Y := 0) rfl (by decide) (by omega)) ?_
            refine xi_iload_n (pc' := 5) (x := x1) kc_138_4 rfl rfl ?_
            refine xi_aload_n (pc' := 6) (x := 66) kc_138_5 rfl rfl ?_
            refine xi_virtual (mj := 139) (as := []) (st1 := [.int x1]) (lv0 := [(0, .ref 66)]) kc_138_6 rfl rfl rfl rfl rfl A41 (Nat.le_of_ble_eq_true rfl) (hJ _ _ _ _ (by decide)) (xm_le ml_139 rfl) rfl ?_
            refine xi_iconst (pc' := 1) (v := 1) kc_139_0 rfl rfl ?_
            refine xi_aload_n (pc' := 2) (x := 66) kc_139_1 rfl rfl ?_
            refine xi_getfield (pc' := 5) (v := .ref 1) kc_139_2 rfl rfl rfl A41 rfl ?_
            refine xi_virtual (mj := 140) (as := []) (st1 := [.int 1]) (lv0 := [(0, .ref 1)]) kc_139_5 rfl rfl rfl rfl rfl A6 (Nat.le_of_ble_eq_true rfl) (hJ _ _ _ _ (by decide)) (xm_le ml_140 rfl) rfl ?_
            refine xi_aload_n (pc' := 1) (x := 1) kc_140_0 rfl rfl ?_
            refine xi_getfield (pc' := 4) (v := .int u4) kc_140_1 rfl rfl rfl A6 rfl ?_
            refine xi_bipush (pc' := 6) (v := 6) kc_140_4 rfl rfl ?_
            by_cases c48 : 6 ≤ u4.toInt
            · refine xi_cmt (pc' := 16) kc_140_6 rfl (xc_ge_t (X := u4.toInt) (Y := 6) rfl (by decide) (by omega)) ?_
              refine xi_bipush (pc' := 18) (v := 6) kc_140_16 rfl rfl ?_
              refine xi_ireturn kc_140_18 mr_140 rfl ?_
              show xw J ov (d + 4) 139 (8, [(0, .ref 66)], [.int 6, .int 1], h) _
              refine xi_ishl (pc' := 9) (v := 64) kc_139_8 rfl rfl ?_
              refine xi_ireturn kc_139_9 mr_139 rfl ?_
              show xw J ov (d + 5) 138 (9, [(0, .ref 66), (1, .int x1)], [.int 64, .int x1], h) _
              by_cases c49 : 64 ≤ x1.toInt
              · refine xi_cmt (pc' := 16) kc_138_9 rfl (xc_ge_t (X := x1.toInt) (Y := 64) rfl (by decide) (by omega)) ?_
                refine xi_iconst (pc' := 17) (v := 0) kc_138_16 rfl rfl ?_
                refine xi_ireturn kc_138_17 mr_138 rfl ?_
                show xw J ov (d + 6) 137 (25, [(0, .ref 0), (1, .int x1), (2, .int x2)], [.int 0], h) _
                refine xi_iff (pc' := 28) kc_137_25 rfl rfl ?_
                refine xi_aload_n (pc' := 29) (x := 0) kc_137_28 rfl rfl ?_
                refine xi_bipush (pc' := 31) (v := (-2)) kc_137_29 rfl rfl ?_
                refine xi_virtual (mj := 90) (as := [.int (-2)]) (st1 := []) (lv0 := [(0, .ref 0), (1, .int (-2))]) kc_137_31 rfl rfl rfl rfl rfl A3 (Nat.le_of_ble_eq_true rfl) (hJ _ _ _ _ (by decide)) (xm_le ml_90 rfl) rfl ?_
                refine xi_iload_n (pc' := 1) (x := (-2)) kc_90_0 rfl rfl ?_
                refine xi_ineg (pc' := 2) (v := 2) kc_90_1 rfl rfl ?_
                refine xi_istore_n (pc' := 3) (lv' := [(2, .int 2), (0, .ref 0), (1, .int (-2))]) kc_90_2 rfl rfl (xm_lt ml_90 rfl) ?_
                refine xi_iload_n (pc' := 4) (x := 2) kc_90_3 rfl rfl ?_
                refine xi_iff (pc' := 7) kc_90_4 rfl rfl ?_
                refine xi_iload_n (pc' := 8) (x := 2) kc_90_7 rfl rfl ?_
                refine xi_aload_n (pc' := 9) (x := 0) kc_90_8 rfl rfl ?_
                refine xi_getfield (pc' := 12) (v := .ref 94) kc_90_9 rfl rfl rfl A3 rfl ?_
                refine xcps4 (xk_arr K.1 xD_94) (fun y50 A50 hy50 ry50 => ?_)
                refine xi_arraylength (pc' := 13) (n := 7) (v := 7) kc_90_12 rfl (xl_lenI (by decide) (by decide) A50 hy50) rfl ?_
                refine xi_cmf (pc' := 16) kc_90_13 rfl rfl ?_
                refine xi_aload_n (pc' := 17) (x := 0) kc_90_16 rfl rfl ?_
                refine xi_getfield (pc' := 20) (v := .ref 94) kc_90_17 rfl rfl rfl A3 rfl ?_
                refine xi_iload_n (pc' := 21) (x := 2) kc_90_20 rfl rfl ?_
                refine xi_dup2 (pc' := 22) kc_90_21 rfl ⟨rfl, rfl⟩ ?_
                refine xcps4 (xj_get hy50 ry50 (i := 2) (by decide) (by decide)) (fun v51 ev51 bv51 dv51 => ?_)
                refine xi_iaload (pc' := 23) (v := v51) kc_90_22 rfl A50 (by decide) rfl (xi_in (by decide) (by rw [hy50]; decide)) ev51 ?_
                refine xi_iconst (pc' := 24) (v := 1) kc_90_23 rfl rfl ?_
                refine xcps2 (α := Int32) ((v51 : Int32) + 1) (fun v52 ev52 => ?_)
                have rv52 := xc_rng v52
                refine xi_iadd (pc' := 25) (v := v52) kc_90_24 rfl ev52 ?_
                refine xcps4 (xj_set (v := v52) hy50 ry50 2 (by first | omega | decide) (by first | omega | decide)) (fun y53 s53 hy53 ry53 => ?_)
                refine xi_iastore (pc' := 26) (x' := y53) kc_90_25 rfl A50 rfl (xi_in (by decide) (by rw [hy50]; decide)) s53 (fun hh53 eh53 => ?_)
                have K54 := xk_pa K (xk_wa rfl) xD_94 hy53 ry53 eh53
                refine xi_iload_n (pc' := 27) (x := (-2)) kc_90_26 rfl rfl ?_
                refine xi_ireturn kc_90_27 mr_90 rfl ?_
                show xw J ov (d + 6) 137 (34, [(0, .ref 0), (1, .int x1), (2, .int x2)], [.int (-2)], hh53) _
                refine xi_ireturn kc_137_34 mr_137 rfl ?_
                have zcm2 : ((-2) : Int32).toInt = (-2) := by decide
                exact kk (-2) hh53 K54
              · refine xi_cmf (pc' := 12) kc_138_9 rfl (xc_ge_f (X := x1.toInt) (Y := 64) rfl (by decide) (by omega)) ?_
                refine xi_iconst (pc' := 13) (v := 1) kc_138_12 rfl rfl ?_
                refine xi_goto (pc' := 17) kc_138_13 rfl ?_
                refine xi_ireturn kc_138_17 mr_138 rfl ?_
                show xw J ov (d + 6) 137 (25, [(0, .ref 0), (1, .int x1), (2, .int x2)], [.int 1], h) _
                refine xi_ift (pc' := 35) kc_137_25 rfl rfl ?_
                refine xi_aload_n (pc' := 36) (x := 0) kc_137_35 rfl rfl ?_
                refine xi_getfield (pc' := 39) (v := .ref 66) kc_137_36 rfl rfl rfl A3 rfl ?_
                refine xi_iload_n (pc' := 40) (x := x1) kc_137_39 rfl rfl ?_
                refine xi_iload_n (pc' := 41) (x := x2) kc_137_40 rfl rfl ?_
                refine xi_aload_n (pc' := 42) (x := 0) kc_137_41 rfl rfl ?_
                refine xi_getfield (pc' := 45) (v := .int u2) kc_137_42 rfl rfl rfl A3 rfl ?_
                refine xi_virtual (mj := 141) (as := [.int x1, .int x2, .int u2]) (st1 := []) (lv0 := [(0, .ref 66), (1, .int x1), (2, .int x2), (3, .int u2)]) kc_137_45 rfl rfl rfl rfl rfl A41 (Nat.le_of_ble_eq_true rfl) (hJ _ _ _ _ (by decide)) (xm_le ml_141 rfl) rfl ?_
                refine mt_141_0 hJ hov1 hov2 (d := d) (x1 := x1) (x2 := x2) (x3 := u2) K.1 (by first | omega | decide) (by first | omega | decide) (by first | omega | decide) (fun r55 hh56 K57 => ?_)
                have br55 := xc_rng r55
                have K58 := xk_tr K K57 rfl
                refine xp_0 K58.1 (fun u59 u60 bu59 bu60 A61 => ?_)
                have e62 : u2 = u60 := xk_eqi (q := 9) K57 rfl A3 A61 rfl rfl
                subst e62
                refine xp_66 K58.1 (fun u64 wl63 bu64 A65 => ?_)
                have e66 : u40 = u64 := xk_eqi (q := 8) K57 rfl A41 A65 rfl rfl
                subst e66
                show xw J ov (d + 6) 137 (48, [(0, .ref 0), (1, .int x1), (2, .int x2)], [.int r55], hh56) _
                refine xi_ireturn kc_137_48 mr_137 rfl ?_
                exact kk r55 hh56 K58
            · refine xi_cmf (pc' := 9) kc_140_6 rfl (xc_ge_f (X := u4.toInt) (Y := 6) rfl (by decide) (by omega)) ?_
              refine xi_aload_n (pc' := 10) (x := 1) kc_140_9 rfl rfl ?_
              refine xi_getfield (pc' := 13) (v := .int u4) kc_140_10 rfl rfl rfl A6 rfl ?_
              refine xi_goto (pc' := 18) kc_140_13 rfl ?_
              refine xi_ireturn kc_140_18 mr_140 rfl ?_
              show xw J ov (d + 4) 139 (8, [(0, .ref 66)], [.int u4, .int 1], h) _
              refine xcps2 (α := Int32) ((1 : Int32) <<< (u4 &&& 31)) (fun v67 ev67 => ?_)
              have rv67 := xc_rng v67
              have bv67 : 1 ≤ v67.toInt ∧ v67.toInt ≤ 64 := by rw [← ev67]; exact xj_shl6 (by omega) (by omega)
              refine xi_ishl (pc' := 9) (v := v67) kc_139_8 rfl ev67 ?_
              refine xi_ireturn kc_139_9 mr_139 rfl ?_
              show xw J ov (d + 5) 138 (9, [(0, .ref 66), (1, .int x1)], [.int v67, .int x1], h) _
              by_cases c68 : v67.toInt ≤ x1.toInt
              · refine xi_cmt (pc' := 16) kc_138_9 rfl (xc_ge_t (X := x1.toInt) (Y := v67.toInt) rfl rfl (by omega)) ?_
                refine xi_iconst (pc' := 17) (v := 0) kc_138_16 rfl rfl ?_
                refine xi_ireturn kc_138_17 mr_138 rfl ?_
                show xw J ov (d + 6) 137 (25, [(0, .ref 0), (1, .int x1), (2, .int x2)], [.int 0], h) _
                refine xi_iff (pc' := 28) kc_137_25 rfl rfl ?_
                refine xi_aload_n (pc' := 29) (x := 0) kc_137_28 rfl rfl ?_
                refine xi_bipush (pc' := 31) (v := (-2)) kc_137_29 rfl rfl ?_
                refine xi_virtual (mj := 90) (as := [.int (-2)]) (st1 := []) (lv0 := [(0, .ref 0), (1, .int (-2))]) kc_137_31 rfl rfl rfl rfl rfl A3 (Nat.le_of_ble_eq_true rfl) (hJ _ _ _ _ (by decide)) (xm_le ml_90 rfl) rfl ?_
                refine xi_iload_n (pc' := 1) (x := (-2)) kc_90_0 rfl rfl ?_
                refine xi_ineg (pc' := 2) (v := 2) kc_90_1 rfl rfl ?_
                refine xi_istore_n (pc' := 3) (lv' := [(2, .int 2), (0, .ref 0), (1, .int (-2))]) kc_90_2 rfl rfl (xm_lt ml_90 rfl) ?_
                refine xi_iload_n (pc' := 4) (x := 2) kc_90_3 rfl rfl ?_
                refine xi_iff (pc' := 7) kc_90_4 rfl rfl ?_
                refine xi_iload_n (pc' := 8) (x := 2) kc_90_7 rfl rfl ?_
                refine xi_aload_n (pc' := 9) (x := 0) kc_90_8 rfl rfl ?_
                refine xi_getfield (pc' := 12) (v := .ref 94) kc_90_9 rfl rfl rfl A3 rfl ?_
                refine xcps4 (xk_arr K.1 xD_94) (fun y69 A69 hy69 ry69 => ?_)
                refine xi_arraylength (pc' := 13) (n := 7) (v := 7) kc_90_12 rfl (xl_lenI (by decide) (by decide) A69 hy69) rfl ?_
                refine xi_cmf (pc' := 16) kc_90_13 rfl rfl ?_
                refine xi_aload_n (pc' := 17) (x := 0) kc_90_16 rfl rfl ?_
                refine xi_getfield (pc' := 20) (v := .ref 94) kc_90_17 rfl rfl rfl A3 rfl ?_
                refine xi_iload_n (pc' := 21) (x := 2) kc_90_20 rfl rfl ?_
                refine xi_dup2 (pc' := 22) kc_90_21 rfl ⟨rfl, rfl⟩ ?_
                refine xcps4 (xj_get hy69 ry69 (i := 2) (by decide) (by decide)) (fun v70 ev70 bv70 dv70 => ?_)
                refine xi_iaload (pc' := 23) (v := v70) kc_90_22 rfl A69 (by decide) rfl (xi_in (by decide) (by rw [hy69]; decide)) ev70 ?_
                refine xi_iconst (pc' := 24) (v := 1) kc_90_23 rfl rfl ?_
                refine xcps2 (α := Int32) ((v70 : Int32) + 1) (fun v71 ev71 => ?_)
                have rv71 := xc_rng v71
                refine xi_iadd (pc' := 25) (v := v71) kc_90_24 rfl ev71 ?_
                refine xcps4 (xj_set (v := v71) hy69 ry69 2 (by first | omega | decide) (by first | omega | decide)) (fun y72 s72 hy72 ry72 => ?_)
                refine xi_iastore (pc' := 26) (x' := y72) kc_90_25 rfl A69 rfl (xi_in (by decide) (by rw [hy69]; decide)) s72 (fun hh72 eh72 => ?_)
                have K73 := xk_pa K (xk_wa rfl) xD_94 hy72 ry72 eh72
                refine xi_iload_n (pc' := 27) (x := (-2)) kc_90_26 rfl rfl ?_
                refine xi_ireturn kc_90_27 mr_90 rfl ?_
                show xw J ov (d + 6) 137 (34, [(0, .ref 0), (1, .int x1), (2, .int x2)], [.int (-2)], hh72) _
                refine xi_ireturn kc_137_34 mr_137 rfl ?_
                have zcm2 : ((-2) : Int32).toInt = (-2) := by decide
                exact kk (-2) hh72 K73
              · refine xi_cmf (pc' := 12) kc_138_9 rfl (xc_ge_f (X := x1.toInt) (Y := v67.toInt) rfl rfl (by omega)) ?_
                refine xi_iconst (pc' := 13) (v := 1) kc_138_12 rfl rfl ?_
                refine xi_goto (pc' := 17) kc_138_13 rfl ?_
                refine xi_ireturn kc_138_17 mr_138 rfl ?_
                show xw J ov (d + 6) 137 (25, [(0, .ref 0), (1, .int x1), (2, .int x2)], [.int 1], h) _
                refine xi_ift (pc' := 35) kc_137_25 rfl rfl ?_
                refine xi_aload_n (pc' := 36) (x := 0) kc_137_35 rfl rfl ?_
                refine xi_getfield (pc' := 39) (v := .ref 66) kc_137_36 rfl rfl rfl A3 rfl ?_
                refine xi_iload_n (pc' := 40) (x := x1) kc_137_39 rfl rfl ?_
                refine xi_iload_n (pc' := 41) (x := x2) kc_137_40 rfl rfl ?_
                refine xi_aload_n (pc' := 42) (x := 0) kc_137_41 rfl rfl ?_
                refine xi_getfield (pc' := 45) (v := .int u2) kc_137_42 rfl rfl rfl A3 rfl ?_
                refine xi_virtual (mj := 141) (as := [.int x1, .int x2, .int u2]) (st1 := []) (lv0 := [(0, .ref 66), (1, .int x1), (2, .int x2), (3, .int u2)]) kc_137_45 rfl rfl rfl rfl rfl A41 (Nat.le_of_ble_eq_true rfl) (hJ _ _ _ _ (by decide)) (xm_le ml_141 rfl) rfl ?_
                refine mt_141_0 hJ hov1 hov2 (d := d) (x1 := x1) (x2 := x2) (x3 := u2) K.1 (by first | omega | decide) (by first | omega | decide) (by first | omega | decide) (fun r74 hh75 K76 => ?_)
                have br74 := xc_rng r74
                have K77 := xk_tr K K76 rfl
                refine xp_0 K77.1 (fun u78 u79 bu78 bu79 A80 => ?_)
                have e81 : u2 = u79 := xk_eqi (q := 9) K76 rfl A3 A80 rfl rfl
                subst e81
                refine xp_66 K77.1 (fun u83 wl82 bu83 A84 => ?_)
                have e85 : u40 = u83 := xk_eqi (q := 8) K76 rfl A41 A84 rfl rfl
                subst e85
                show xw J ov (d + 6) 137 (48, [(0, .ref 0), (1, .int x1), (2, .int x2)], [.int r74], hh75) _
                refine xi_ireturn kc_137_48 mr_137 rfl ?_
                exact kk r74 hh75 K77
set_option maxHeartbeats 4000000 in
theorem mt_14_0 {J : xe_J} {ov : List (List Int32)} (hJ : ∀ d mj as h, mj ≠ xe_loff → J d mj as h = none) (hov1 : ov[1]? = some [10, 0, 0, 0, 0, 0]) (hov2 : ov[2]? = some [99, 30, 50, 50, 1, 99999]) {d : Nat} {Q : Option Value → xe_H → Prop} {h : xe_H} {x1 : Int32} {x2 : Int32} {x3 : Int32} (T : xt h) (b1 : (0 ≤ x1.toInt ∧ x1.toInt ≤ 5)) (b2 : (0 ≤ x2.toInt ∧ x2.toInt ≤ 5)) (kk : (∀ h' : xe_H, xk [(0, 9), (115, 1), (83, 0), (29, 0), (31, 0), (33, 0), (35, 0), (37, 0), (39, 0), (41, 0), (43, 0), (45, 0), (47, 0), (49, 0), (51, 0), (125, 0), (66, 8), (115, 18), (71, 0), (132, 0)] h h' → Q none h')) : xw J ov (d + 1) 14 (0, [(0, .ref 115), (1, .int x1), (2, .int x2), (3, .int x3)], [], h) Q := by
  have K : xk [(0, 9), (115, 1), (83, 0), (29, 0), (31, 0), (33, 0), (35, 0), (37, 0), (39, 0), (41, 0), (43, 0), (45, 0), (47, 0), (49, 0), (51, 0), (125, 0), (66, 8), (115, 18), (71, 0), (132, 0)] h h := xk_re T
  have rx3 := xc_rng x3
  refine xi_aload_n (pc' := 1) (x := 115) kc_14_0 rfl rfl ?_
  refine xp_115 K.1 (fun u1 u2 u3 u4 u5 u6 u7 u8 u9 u10 u11 u12 u13 bu1 bu2 bu3 bu4 bu5 bu6 bu7 bu8 bu9 bu10 bu11 bu12 bu13 A14 => ?_)
  refine xi_getfield (pc' := 4) (v := .ref 116) kc_14_1 rfl rfl rfl A14 rfl ?_
  refine xi_iload_n (pc' := 5) (x := x1) kc_14_4 rfl rfl ?_
  refine xi_iload_n (pc' := 6) (x := x2) kc_14_5 rfl rfl ?_
  by_cases c15 : x2.toInt = 0
  · refine xi_iff (pc' := 9) kc_14_6 rfl (xc_ne_f (X := x2.toInt) (Y := 0) rfl (by decide) (by omega)) ?_
    refine xi_iload_n (pc' := 10) (x := x3) kc_14_9 rfl rfl ?_
    refine xi_goto (pc' := 19) kc_14_10 rfl ?_
    refine xcps4 (xk_arr K.1 xD_116) (fun y16 A16 hy16 ry16 => ?_)
    refine xcps4 (xj_set (v := x3) hy16 ry16 x1 (by first | omega | decide) (by first | omega | decide)) (fun y17 s17 hy17 ry17 => ?_)
    refine xi_iastore (pc' := 20) (x' := y17) kc_14_19 rfl A16 rfl (xi_in (by omega) (by rw [hy16]; omega)) s17 (fun hh17 eh17 => ?_)
    have K18 := xk_pa K (xk_wa rfl) xD_116 hy17 ry17 eh17
    refine xi_aload_n (pc' := 21) (x := 115) kc_14_20 rfl rfl ?_
    have A19 := ((eh17.2.1 115 (by decide)).trans A14)
    refine xi_getfield (pc' := 24) (v := .ref 117) kc_14_21 rfl rfl rfl A19 rfl ?_
    refine xi_iload_n (pc' := 25) (x := x1) kc_14_24 rfl rfl ?_
    refine xi_iload_n (pc' := 26) (x := x2) kc_14_25 rfl rfl ?_
    refine xi_iconst (pc' := 27) (v := 1) kc_14_26 rfl rfl ?_
    refine xi_cmt (pc' := 34) kc_14_27 rfl (xc_ne_t (X := x2.toInt) (Y := 1) rfl (by decide) (by omega)) ?_
    refine xi_aload_n (pc' := 35) (x := 115) kc_14_34 rfl rfl ?_
    refine xi_getfield (pc' := 38) (v := .ref 117) kc_14_35 rfl rfl rfl A19 rfl ?_
    refine xi_iload_n (pc' := 39) (x := x1) kc_14_38 rfl rfl ?_
    refine xcps4 (xk_arr K18.1 xD_117) (fun y20 A20 hy20 ry20 => ?_)
    refine xcps4 (xj_get hy20 ry20 (i := x1) (by omega) (by omega)) (fun v21 ev21 bv21 dv21 => ?_)
    refine xi_iaload (pc' := 40) (v := v21) kc_14_39 rfl A20 (by decide) rfl (xi_in (by omega) (by rw [hy20]; omega)) ev21 ?_
    refine xcps4 (xj_set (v := v21) hy20 ry20 x1 (by first | omega | decide) (by first | omega | decide)) (fun y22 s22 hy22 ry22 => ?_)
    refine xi_iastore (pc' := 41) (x' := y22) kc_14_40 rfl A20 rfl (xi_in (by omega) (by rw [hy20]; omega)) s22 (fun hh22 eh22 => ?_)
    have K23 := xk_pa K18 (xk_wa rfl) xD_117 hy22 ry22 eh22
    refine xi_aload_n (pc' := 42) (x := 115) kc_14_41 rfl rfl ?_
    have A24 := ((eh22.2.1 115 (by decide)).trans A19)
    refine xi_getfield (pc' := 45) (v := .ref 118) kc_14_42 rfl rfl rfl A24 rfl ?_
    refine xi_iload_n (pc' := 46) (x := x1) kc_14_45 rfl rfl ?_
    refine xi_iload_n (pc' := 47) (x := x2) kc_14_46 rfl rfl ?_
    refine xi_iconst (pc' := 48) (v := 2) kc_14_47 rfl rfl ?_
    refine xi_cmt (pc' := 55) kc_14_48 rfl (xc_ne_t (X := x2.toInt) (Y := 2) rfl (by decide) (by omega)) ?_
    refine xi_aload_n (pc' := 56) (x := 115) kc_14_55 rfl rfl ?_
    refine xi_getfield (pc' := 59) (v := .ref 118) kc_14_56 rfl rfl rfl A24 rfl ?_
    refine xi_iload_n (pc' := 60) (x := x1) kc_14_59 rfl rfl ?_
    refine xcps4 (xk_arr K23.1 xD_118) (fun y25 A25 hy25 ry25 => ?_)
    refine xcps4 (xj_get hy25 ry25 (i := x1) (by omega) (by omega)) (fun v26 ev26 bv26 dv26 => ?_)
    refine xi_iaload (pc' := 61) (v := v26) kc_14_60 rfl A25 (by decide) rfl (xi_in (by omega) (by rw [hy25]; omega)) ev26 ?_
    refine xcps4 (xj_set (v := v26) hy25 ry25 x1 (by first | omega | decide) (by first | omega | decide)) (fun y27 s27 hy27 ry27 => ?_)
    refine xi_iastore (pc' := 62) (x' := y27) kc_14_61 rfl A25 rfl (xi_in (by omega) (by rw [hy25]; omega)) s27 (fun hh27 eh27 => ?_)
    have K28 := xk_pa K23 (xk_wa rfl) xD_118 hy27 ry27 eh27
    refine xi_aload_n (pc' := 63) (x := 115) kc_14_62 rfl rfl ?_
    have A29 := ((eh27.2.1 115 (by decide)).trans A24)
    refine xi_getfield (pc' := 66) (v := .ref 119) kc_14_63 rfl rfl rfl A29 rfl ?_
    refine xi_iload_n (pc' := 67) (x := x1) kc_14_66 rfl rfl ?_
    refine xi_iload_n (pc' := 68) (x := x2) kc_14_67 rfl rfl ?_
    refine xi_iconst (pc' := 69) (v := 3) kc_14_68 rfl rfl ?_
    refine xi_cmt (pc' := 76) kc_14_69 rfl (xc_ne_t (X := x2.toInt) (Y := 3) rfl (by decide) (by omega)) ?_
    refine xi_aload_n (pc' := 77) (x := 115) kc_14_76 rfl rfl ?_
    refine xi_getfield (pc' := 80) (v := .ref 119) kc_14_77 rfl rfl rfl A29 rfl ?_
    refine xi_iload_n (pc' := 81) (x := x1) kc_14_80 rfl rfl ?_
    refine xcps4 (xk_arr K28.1 xD_119) (fun y30 A30 hy30 ry30 => ?_)
    refine xcps4 (xj_get hy30 ry30 (i := x1) (by omega) (by omega)) (fun v31 ev31 bv31 dv31 => ?_)
    refine xi_iaload (pc' := 82) (v := v31) kc_14_81 rfl A30 (by decide) rfl (xi_in (by omega) (by rw [hy30]; omega)) ev31 ?_
    refine xcps4 (xj_set (v := v31) hy30 ry30 x1 (by first | omega | decide) (by first | omega | decide)) (fun y32 s32 hy32 ry32 => ?_)
    refine xi_iastore (pc' := 83) (x' := y32) kc_14_82 rfl A30 rfl (xi_in (by omega) (by rw [hy30]; omega)) s32 (fun hh32 eh32 => ?_)
    have K33 := xk_pa K28 (xk_wa rfl) xD_119 hy32 ry32 eh32
    refine xi_aload_n (pc' := 84) (x := 115) kc_14_83 rfl rfl ?_
    have A34 := ((eh32.2.1 115 (by decide)).trans A29)
    refine xi_getfield (pc' := 87) (v := .ref 120) kc_14_84 rfl rfl rfl A34 rfl ?_
    refine xi_iload_n (pc' := 88) (x := x1) kc_14_87 rfl rfl ?_
    refine xi_iload_n (pc' := 89) (x := x2) kc_14_88 rfl rfl ?_
    refine xi_iconst (pc' := 90) (v := 4) kc_14_89 rfl rfl ?_
    refine xi_cmt (pc' := 97) kc_14_90 rfl (xc_ne_t (X := x2.toInt) (Y := 4) rfl (by decide) (by omega)) ?_
    refine xi_aload_n (pc' := 98) (x := 115) kc_14_97 rfl rfl ?_
    refine xi_getfield (pc' := 101) (v := .ref 120) kc_14_98 rfl rfl rfl A34 rfl ?_
    refine xi_iload_n (pc' := 102) (x := x1) kc_14_101 rfl rfl ?_
    refine xcps4 (xk_arr K33.1 xD_120) (fun y35 A35 hy35 ry35 => ?_)
    refine xcps4 (xj_get hy35 ry35 (i := x1) (by omega) (by omega)) (fun v36 ev36 bv36 dv36 => ?_)
    refine xi_iaload (pc' := 103) (v := v36) kc_14_102 rfl A35 (by decide) rfl (xi_in (by omega) (by rw [hy35]; omega)) ev36 ?_
    refine xcps4 (xj_set (v := v36) hy35 ry35 x1 (by first | omega | decide) (by first | omega | decide)) (fun y37 s37 hy37 ry37 => ?_)
    refine xi_iastore (pc' := 104) (x' := y37) kc_14_103 rfl A35 rfl (xi_in (by omega) (by rw [hy35]; omega)) s37 (fun hh37 eh37 => ?_)
    have K38 := xk_pa K33 (xk_wa rfl) xD_120 hy37 ry37 eh37
    refine xi_aload_n (pc' := 105) (x := 115) kc_14_104 rfl rfl ?_
    have A39 := ((eh37.2.1 115 (by decide)).trans A34)
    refine xi_getfield (pc' := 108) (v := .ref 121) kc_14_105 rfl rfl rfl A39 rfl ?_
    refine xi_iload_n (pc' := 109) (x := x1) kc_14_108 rfl rfl ?_
    refine xi_iload_n (pc' := 110) (x := x2) kc_14_109 rfl rfl ?_
    refine xi_iconst (pc' := 111) (v := 5) kc_14_110 rfl rfl ?_
    refine xi_cmt (pc' := 118) kc_14_111 rfl (xc_ne_t (X := x2.toInt) (Y := 5) rfl (by decide) (by omega)) ?_
    refine xi_aload_n (pc' := 119) (x := 115) kc_14_118 rfl rfl ?_
    refine xi_getfield (pc' := 122) (v := .ref 121) kc_14_119 rfl rfl rfl A39 rfl ?_
    refine xi_iload_n (pc' := 123) (x := x1) kc_14_122 rfl rfl ?_
    refine xcps4 (xk_arr K38.1 xD_121) (fun y40 A40 hy40 ry40 => ?_)
    refine xcps4 (xj_get hy40 ry40 (i := x1) (by omega) (by omega)) (fun v41 ev41 bv41 dv41 => ?_)
    refine xi_iaload (pc' := 124) (v := v41) kc_14_123 rfl A40 (by decide) rfl (xi_in (by omega) (by rw [hy40]; omega)) ev41 ?_
    refine xcps4 (xj_set (v := v41) hy40 ry40 x1 (by first | omega | decide) (by first | omega | decide)) (fun y42 s42 hy42 ry42 => ?_)
    refine xi_iastore (pc' := 125) (x' := y42) kc_14_124 rfl A40 rfl (xi_in (by omega) (by rw [hy40]; omega)) s42 (fun hh42 eh42 => ?_)
    have K43 := xk_pa K38 (xk_wa rfl) xD_121 hy42 ry42 eh42
    refine xi_aload_n (pc' := 126) (x := 115) kc_14_125 rfl rfl ?_
    refine xi_iconst (pc' := 127) (v := 0) kc_14_126 rfl rfl ?_
    have A44 := ((eh42.2.1 115 (by decide)).trans A39)
    refine xi_putfield (pc' := 130) (fs' := [.int u1, .int u2, .ref 116, .ref 117, .ref 118, .ref 119, .ref 120, .ref 121, .ref 122, .ref 123, .ref 124, .ref 125, .ref 126, .ref 127, .ref 128, .ref 129, .int u3, .ref 130, .int u4, .ref 131, .ref 132, .ref 133, .ref 134, .int u5, .ref 135, .ref 136, .ref 137, .ref 138, .ref 139, .ref 140, .ref 141, .ref 142, .int u6, .int u7, .int u8, .ref 143, .ref 144, .ref 145, .ref 146, .ref 147, .ref 148, .int 0, .ref 149, .ref 150, .ref 151, .int u10, .ref 152, .ref 153, .ref 154, .ref 155, .ref 156, .ref 157, .ref 158, .ref 159, .int u11, .ref 160, .int u12, .ref 161, .ref 162, .ref 163, .ref 164, .int u13, .ref 165, .ref 166]) kc_14_127 rfl rfl rfl A44 rfl rfl rfl (Nat.le_of_ble_eq_true rfl) rfl (fun hh46 eh45 => ?_)
    have K47 := xk_pf (k := 41) (v := 0) K43 (xk_wf rfl) xD_115 A44 rfl (by first | omega | decide) (by first | omega | decide) eh45 rfl
    refine xi_return kc_14_130 mr_14 ?_
    exact kk hh46 K47
  · refine xi_ift (pc' := 13) kc_14_6 rfl (xc_ne_t (X := x2.toInt) (Y := 0) rfl (by decide) (by omega)) ?_
    refine xi_aload_n (pc' := 14) (x := 115) kc_14_13 rfl rfl ?_
    refine xi_getfield (pc' := 17) (v := .ref 116) kc_14_14 rfl rfl rfl A14 rfl ?_
    refine xi_iload_n (pc' := 18) (x := x1) kc_14_17 rfl rfl ?_
    refine xcps4 (xk_arr K.1 xD_116) (fun y48 A48 hy48 ry48 => ?_)
    refine xcps4 (xj_get hy48 ry48 (i := x1) (by omega) (by omega)) (fun v49 ev49 bv49 dv49 => ?_)
    refine xi_iaload (pc' := 19) (v := v49) kc_14_18 rfl A48 (by decide) rfl (xi_in (by omega) (by rw [hy48]; omega)) ev49 ?_
    refine xcps4 (xj_set (v := v49) hy48 ry48 x1 (by first | omega | decide) (by first | omega | decide)) (fun y50 s50 hy50 ry50 => ?_)
    refine xi_iastore (pc' := 20) (x' := y50) kc_14_19 rfl A48 rfl (xi_in (by omega) (by rw [hy48]; omega)) s50 (fun hh50 eh50 => ?_)
    have K51 := xk_pa K (xk_wa rfl) xD_116 hy50 ry50 eh50
    refine xi_aload_n (pc' := 21) (x := 115) kc_14_20 rfl rfl ?_
    have A52 := ((eh50.2.1 115 (by decide)).trans A14)
    refine xi_getfield (pc' := 24) (v := .ref 117) kc_14_21 rfl rfl rfl A52 rfl ?_
    refine xi_iload_n (pc' := 25) (x := x1) kc_14_24 rfl rfl ?_
    refine xi_iload_n (pc' := 26) (x := x2) kc_14_25 rfl rfl ?_
    refine xi_iconst (pc' := 27) (v := 1) kc_14_26 rfl rfl ?_
    by_cases c53 : x2.toInt = 1
    · refine xi_cmf (pc' := 30) kc_14_27 rfl (xc_ne_f (X := x2.toInt) (Y := 1) rfl (by decide) (by omega)) ?_
      refine xi_iload_n (pc' := 31) (x := x3) kc_14_30 rfl rfl ?_
      refine xi_goto (pc' := 40) kc_14_31 rfl ?_
      refine xcps4 (xk_arr K51.1 xD_117) (fun y54 A54 hy54 ry54 => ?_)
      refine xcps4 (xj_set (v := x3) hy54 ry54 x1 (by first | omega | decide) (by first | omega | decide)) (fun y55 s55 hy55 ry55 => ?_)
      refine xi_iastore (pc' := 41) (x' := y55) kc_14_40 rfl A54 rfl (xi_in (by omega) (by rw [hy54]; omega)) s55 (fun hh55 eh55 => ?_)
      have K56 := xk_pa K51 (xk_wa rfl) xD_117 hy55 ry55 eh55
      refine xi_aload_n (pc' := 42) (x := 115) kc_14_41 rfl rfl ?_
      have A57 := ((eh55.2.1 115 (by decide)).trans A52)
      refine xi_getfield (pc' := 45) (v := .ref 118) kc_14_42 rfl rfl rfl A57 rfl ?_
      refine xi_iload_n (pc' := 46) (x := x1) kc_14_45 rfl rfl ?_
      refine xi_iload_n (pc' := 47) (x := x2) kc_14_46 rfl rfl ?_
      refine xi_iconst (pc' := 48) (v := 2) kc_14_47 rfl rfl ?_
      refine xi_cmt (pc' := 55) kc_14_48 rfl (xc_ne_t (X := x2.toInt) (Y := 2) rfl (by decide) (by omega)) ?_
      refine xi_aload_n (pc' := 56) (x := 115) kc_14_55 rfl rfl ?_
      refine xi_getfield (pc' := 59) (v := .ref 118) kc_14_56 rfl rfl rfl A57 rfl ?_
      refine xi_iload_n (pc' := 60) (x := x1) kc_14_59 rfl rfl ?_
      refine xcps4 (xk_arr K56.1 xD_118) (fun y58 A58 hy58 ry58 => ?_)
      refine xcps4 (xj_get hy58 ry58 (i := x1) (by omega) (by omega)) (fun v59 ev59 bv59 dv59 => ?_)
      refine xi_iaload (pc' := 61) (v := v59) kc_14_60 rfl A58 (by decide) rfl (xi_in (by omega) (by rw [hy58]; omega)) ev59 ?_
      refine xcps4 (xj_set (v := v59) hy58 ry58 x1 (by first | omega | decide) (by first | omega | decide)) (fun y60 s60 hy60 ry60 => ?_)
      refine xi_iastore (pc' := 62) (x' := y60) kc_14_61 rfl A58 rfl (xi_in (by omega) (by rw [hy58]; omega)) s60 (fun hh60 eh60 => ?_)
      have K61 := xk_pa K56 (xk_wa rfl) xD_118 hy60 ry60 eh60
      refine xi_aload_n (pc' := 63) (x := 115) kc_14_62 rfl rfl ?_
      have A62 := ((eh60.2.1 115 (by decide)).trans A57)
      refine xi_getfield (pc' := 66) (v := .ref 119) kc_14_63 rfl rfl rfl A62 rfl ?_
      refine xi_iload_n (pc' := 67) (x := x1) kc_14_66 rfl rfl ?_
      refine xi_iload_n (pc' := 68) (x := x2) kc_14_67 rfl rfl ?_
      refine xi_iconst (pc' := 69) (v := 3) kc_14_68 rfl rfl ?_
      refine xi_cmt (pc' := 76) kc_14_69 rfl (xc_ne_t (X := x2.toInt) (Y := 3) rfl (by decide) (by omega)) ?_
      refine xi_aload_n (pc' := 77) (x := 115) kc_14_76 rfl rfl ?_
      refine xi_getfield (pc' := 80) (v := .ref 119) kc_14_77 rfl rfl rfl A62 rfl ?_
      refine xi_iload_n (pc' := 81) (x := x1) kc_14_80 rfl rfl ?_
      refine xcps4 (xk_arr K61.1 xD_119) (fun y63 A63 hy63 ry63 => ?_)
      refine xcps4 (xj_get hy63 ry63 (i := x1) (by omega) (by omega)) (fun v64 ev64 bv64 dv64 => ?_)
      refine xi_iaload (pc' := 82) (v := v64) kc_14_81 rfl A63 (by decide) rfl (xi_in (by omega) (by rw [hy63]; omega)) ev64 ?_
      refine xcps4 (xj_set (v := v64) hy63 ry63 x1 (by first | omega | decide) (by first | omega | decide)) (fun y65 s65 hy65 ry65 => ?_)
      refine xi_iastore (pc' := 83) (x' := y65) kc_14_82 rfl A63 rfl (xi_in (by omega) (by rw [hy63]; omega)) s65 (fun hh65 eh65 => ?_)
      have K66 := xk_pa K61 (xk_wa rfl) xD_119 hy65 ry65 eh65
      refine xi_aload_n (pc' := 84) (x := 115) kc_14_83 rfl rfl ?_
      have A67 := ((eh65.2.1 115 (by decide)).trans A62)
      refine xi_getfield (pc' := 87) (v := .ref 120) kc_14_84 rfl rfl rfl A67 rfl ?_
      refine xi_iload_n (pc' := 88) (x := x1) kc_14_87 rfl rfl ?_
      refine xi_iload_n (pc' := 89) (x := x2) kc_14_88 rfl rfl ?_
      refine xi_iconst (pc' := 90) (v := 4) kc_14_89 rfl rfl ?_
      refine xi_cmt (pc' := 97) kc_14_90 rfl (xc_ne_t (X := x2.toInt) (Y := 4) rfl (by decide) (by omega)) ?_
      refine xi_aload_n (pc' := 98) (x := 115) kc_14_97 rfl rfl ?_
      refine xi_getfield (pc' := 101) (v := .ref 120) kc_14_98 rfl rfl rfl A67 rfl ?_
      refine xi_iload_n (pc' := 102) (x := x1) kc_14_101 rfl rfl ?_
      refine xcps4 (xk_arr K66.1 xD_120) (fun y68 A68 hy68 ry68 => ?_)
      refine xcps4 (xj_get hy68 ry68 (i := x1) (by omega) (by omega)) (fun v69 ev69 bv69 dv69 => ?_)
      refine xi_iaload (pc' := 103) (v := v69) kc_14_102 rfl A68 (by decide) rfl (xi_in (by omega) (by rw [hy68]; omega)) ev69 ?_
      refine xcps4 (xj_set (v := v69) hy68 ry68 x1 (by first | omega | decide) (by first | omega | decide)) (fun y70 s70 hy70 ry70 => ?_)
      refine xi_iastore (pc' := 104) (x' := y70) kc_14_103 rfl A68 rfl (xi_in (by omega) (by rw [hy68]; omega)) s70 (fun hh70 eh70 => ?_)
      have K71 := xk_pa K66 (xk_wa rfl) xD_120 hy70 ry70 eh70
      refine xi_aload_n (pc' := 105) (x := 115) kc_14_104 rfl rfl ?_
      have A72 := ((eh70.2.1 115 (by decide)).trans A67)
      refine xi_getfield (pc' := 108) (v := .ref 121) kc_14_105 rfl rfl rfl A72 rfl ?_
      refine xi_iload_n (pc' := 109) (x := x1) kc_14_108 rfl rfl ?_
      refine xi_iload_n (pc' := 110) (x := x2) kc_14_109 rfl rfl ?_
      refine xi_iconst (pc' := 111) (v := 5) kc_14_110 rfl rfl ?_
      refine xi_cmt (pc' := 118) kc_14_111 rfl (xc_ne_t (X := x2.toInt) (Y := 5) rfl (by decide) (by omega)) ?_
      refine xi_aload_n (pc' := 119) (x := 115) kc_14_118 rfl rfl ?_
      refine xi_getfield (pc' := 122) (v := .ref 121) kc_14_119 rfl rfl rfl A72 rfl ?_
      refine xi_iload_n (pc' := 123) (x := x1) kc_14_122 rfl rfl ?_
      refine xcps4 (xk_arr K71.1 xD_121) (fun y73 A73 hy73 ry73 => ?_)
      refine xcps4 (xj_get hy73 ry73 (i := x1) (by omega) (by omega)) (fun v74 ev74 bv74 dv74 => ?_)
      refine xi_iaload (pc' := 124) (v := v74) kc_14_123 rfl A73 (by decide) rfl (xi_in (by omega) (by rw [hy73]; omega)) ev74 ?_
      refine xcps4 (xj_set (v := v74) hy73 ry73 x1 (by first | omega | decide) (by first | omega | decide)) (fun y75 s75 hy75 ry75 => ?_)
      refine xi_iastore (pc' := 125) (x' := y75) kc_14_124 rfl A73 rfl (xi_in (by omega) (by rw [hy73]; omega)) s75 (fun hh75 eh75 => ?_)
      have K76 := xk_pa K71 (xk_wa rfl) xD_121 hy75 ry75 eh75
      refine xi_aload_n (pc' := 126) (x := 115) kc_14_125 rfl rfl ?_
      refine xi_iconst (pc' := 127) (v := 0) kc_14_126 rfl rfl ?_
      have A77 := ((eh75.2.1 115 (by decide)).trans A72)
      refine xi_putfield (pc' := 130) (fs' := [.int u1, .int u2, .ref 116, .ref 117, .ref 118, .ref 119, .ref 120, .ref 121, .ref 122, .ref 123, .ref 124, .ref 125, .ref 126, .ref 127, .ref 128, .ref 129, .int u3, .ref 130, .int u4, .ref 131, .ref 132, .ref 133, .ref 134, .int u5, .ref 135, .ref 136, .ref 137, .ref 138, .ref 139, .ref 140, .ref 141, .ref 142, .int u6, .int u7, .int u8, .ref 143, .ref 144, .ref 145, .ref 146, .ref 147, .ref 148, .int 0, .ref 149, .ref 150, .ref 151, .int u10, .ref 152, .ref 153, .ref 154, .ref 155, .ref 156, .ref 157, .ref 158, .ref 159, .int u11, .ref 160, .int u12, .ref 161, .ref 162, .ref 163, .ref 164, .int u13, .ref 165, .ref 166]) kc_14_127 rfl rfl rfl A77 rfl rfl rfl (Nat.le_of_ble_eq_true rfl) rfl (fun hh79 eh78 => ?_)
      have K80 := xk_pf (k := 41) (v := 0) K76 (xk_wf rfl) xD_115 A77 rfl (by first | omega | decide) (by first | omega | decide) eh78 rfl
      refine xi_return kc_14_130 mr_14 ?_
      exact kk hh79 K80
    · refine xi_cmt (pc' := 34) kc_14_27 rfl (xc_ne_t (X := x2.toInt) (Y := 1) rfl (by decide) (by omega)) ?_
      refine xi_aload_n (pc' := 35) (x := 115) kc_14_34 rfl rfl ?_
      refine xi_getfield (pc' := 38) (v := .ref 117) kc_14_35 rfl rfl rfl A52 rfl ?_
      refine xi_iload_n (pc' := 39) (x := x1) kc_14_38 rfl rfl ?_
      refine xcps4 (xk_arr K51.1 xD_117) (fun y81 A81 hy81 ry81 => ?_)
      refine xcps4 (xj_get hy81 ry81 (i := x1) (by omega) (by omega)) (fun v82 ev82 bv82 dv82 => ?_)
      refine xi_iaload (pc' := 40) (v := v82) kc_14_39 rfl A81 (by decide) rfl (xi_in (by omega) (by rw [hy81]; omega)) ev82 ?_
      refine xcps4 (xj_set (v := v82) hy81 ry81 x1 (by first | omega | decide) (by first | omega | decide)) (fun y83 s83 hy83 ry83 => ?_)
      refine xi_iastore (pc' := 41) (x' := y83) kc_14_40 rfl A81 rfl (xi_in (by omega) (by rw [hy81]; omega)) s83 (fun hh83 eh83 => ?_)
      have K84 := xk_pa K51 (xk_wa rfl) xD_117 hy83 ry83 eh83
      refine xi_aload_n (pc' := 42) (x := 115) kc_14_41 rfl rfl ?_
      have A85 := ((eh83.2.1 115 (by decide)).trans A52)
      refine xi_getfield (pc' := 45) (v := .ref 118) kc_14_42 rfl rfl rfl A85 rfl ?_
      refine xi_iload_n (pc' := 46) (x := x1) kc_14_45 rfl rfl ?_
      refine xi_iload_n (pc' := 47) (x := x2) kc_14_46 rfl rfl ?_
      refine xi_iconst (pc' := 48) (v := 2) kc_14_47 rfl rfl ?_
      by_cases c86 : x2.toInt = 2
      · refine xi_cmf (pc' := 51) kc_14_48 rfl (xc_ne_f (X := x2.toInt) (Y := 2) rfl (by decide) (by omega)) ?_
        refine xi_iload_n (pc' := 52) (x := x3) kc_14_51 rfl rfl ?_
        refine xi_goto (pc' := 61) kc_14_52 rfl ?_
        refine xcps4 (xk_arr K84.1 xD_118) (fun y87 A87 hy87 ry87 => ?_)
        refine xcps4 (xj_set (v := x3) hy87 ry87 x1 (by first | omega | decide) (by first | omega | decide)) (fun y88 s88 hy88 ry88 => ?_)
        refine xi_iastore (pc' := 62) (x' := y88) kc_14_61 rfl A87 rfl (xi_in (by omega) (by rw [hy87]; omega)) s88 (fun hh88 eh88 => ?_)
        have K89 := xk_pa K84 (xk_wa rfl) xD_118 hy88 ry88 eh88
        refine xi_aload_n (pc' := 63) (x := 115) kc_14_62 rfl rfl ?_
        have A90 := ((eh88.2.1 115 (by decide)).trans A85)
        refine xi_getfield (pc' := 66) (v := .ref 119) kc_14_63 rfl rfl rfl A90 rfl ?_
        refine xi_iload_n (pc' := 67) (x := x1) kc_14_66 rfl rfl ?_
        refine xi_iload_n (pc' := 68) (x := x2) kc_14_67 rfl rfl ?_
        refine xi_iconst (pc' := 69) (v := 3) kc_14_68 rfl rfl ?_
        refine xi_cmt (pc' := 76) kc_14_69 rfl (xc_ne_t (X := x2.toInt) (Y := 3) rfl (by decide) (by omega)) ?_
        refine xi_aload_n (pc' := 77) (x := 115) kc_14_76 rfl rfl ?_
        refine xi_getfield (pc' := 80) (v := .ref 119) kc_14_77 rfl rfl rfl A90 rfl ?_
        refine xi_iload_n (pc' := 81) (x := x1) kc_14_80 rfl rfl ?_
        refine xcps4 (xk_arr K89.1 xD_119) (fun y91 A91 hy91 ry91 => ?_)
        refine xcps4 (xj_get hy91 ry91 (i := x1) (by omega) (by omega)) (fun v92 ev92 bv92 dv92 => ?_)
        refine xi_iaload (pc' := 82) (v := v92) kc_14_81 rfl A91 (by decide) rfl (xi_in (by omega) (by rw [hy91]; omega)) ev92 ?_
        refine xcps4 (xj_set (v := v92) hy91 ry91 x1 (by first | omega | decide) (by first | omega | decide)) (fun y93 s93 hy93 ry93 => ?_)
        refine xi_iastore (pc' := 83) (x' := y93) kc_14_82 rfl A91 rfl (xi_in (by omega) (by rw [hy91]; omega)) s93 (fun hh93 eh93 => ?_)
        have K94 := xk_pa K89 (xk_wa rfl) xD_119 hy93 ry93 eh93
        refine xi_aload_n (pc' := 84) (x := 115) kc_14_83 rfl rfl ?_
        have A95 := ((eh93.2.1 115 (by decide)).trans A90)
        refine xi_getfield (pc' := 87) (v := .ref 120) kc_14_84 rfl rfl rfl A95 rfl ?_
        refine xi_iload_n (pc' := 88) (x := x1) kc_14_87 rfl rfl ?_
        refine xi_iload_n (pc' := 89) (x := x2) kc_14_88 rfl rfl ?_
        refine xi_iconst (pc' := 90) (v := 4) kc_14_89 rfl rfl ?_
        refine xi_cmt (pc' := 97) kc_14_90 rfl (xc_ne_t (X := x2.toInt) (Y := 4) rfl (by decide) (by omega)) ?_
        refine xi_aload_n (pc' := 98) (x := 115) kc_14_97 rfl rfl ?_
        refine xi_getfield (pc' := 101) (v := .ref 120) kc_14_98 rfl rfl rfl A95 rfl ?_
        refine xi_iload_n (pc' := 102) (x := x1) kc_14_101 rfl rfl ?_
        refine xcps4 (xk_arr K94.1 xD_120) (fun y96 A96 hy96 ry96 => ?_)
        refine xcps4 (xj_get hy96 ry96 (i := x1) (by omega) (by omega)) (fun v97 ev97 bv97 dv97 => ?_)
        refine xi_iaload (pc' := 103) (v := v97) kc_14_102 rfl A96 (by decide) rfl (xi_in (by omega) (by rw [hy96]; omega)) ev97 ?_
        refine xcps4 (xj_set (v := v97) hy96 ry96 x1 (by first | omega | decide) (by first | omega | decide)) (fun y98 s98 hy98 ry98 => ?_)
        refine xi_iastore (pc' := 104) (x' := y98) kc_14_103 rfl A96 rfl (xi_in (by omega) (by rw [hy96]; omega)) s98 (fun hh98 eh98 => ?_)
        have K99 := xk_pa K94 (xk_wa rfl) xD_120 hy98 ry98 eh98
        refine xi_aload_n (pc' := 105) (x := 115) kc_14_104 rfl rfl ?_
        have A100 := ((eh98.2.1 115 (by decide)).trans A95)
        refine xi_getfield (pc' := 108) (v := .ref 121) kc_14_105 rfl rfl rfl A100 rfl ?_
        refine xi_iload_n (pc' := 109) (x := x1) kc_14_108 rfl rfl ?_
        refine xi_iload_n (pc' := 110) (x := x2) kc_14_109 rfl rfl ?_
        refine xi_iconst (pc' := 111) (v := 5) kc_14_110 rfl rfl ?_
        refine xi_cmt (pc' := 118) kc_14_111 rfl (xc_ne_t (X := x2.toInt) (Y := 5) rfl (by decide) (by omega)) ?_
        refine xi_aload_n (pc' := 119) (x := 115) kc_14_118 rfl rfl ?_
        refine xi_getfield (pc' := 122) (v := .ref 121) kc_14_119 rfl rfl rfl A100 rfl ?_
        refine xi_iload_n (pc' := 123) (x := x1) kc_14_122 rfl rfl ?_
        refine xcps4 (xk_arr K99.1 xD_121) (fun y101 A101 hy101 ry101 => ?_)
        refine xcps4 (xj_get hy101 ry101 (i := x1) (by omega) (by omega)) (fun v102 ev102 bv102 dv102 => ?_)
        refine xi_iaload (pc' := 124) (v := v102) kc_14_123 rfl A101 (by decide) rfl (xi_in (by omega) (by rw [hy101]; omega)) ev102 ?_
        refine xcps4 (xj_set (v := v102) hy101 ry101 x1 (by first | omega | decide) (by first | omega | decide)) (fun y103 s103 hy103 ry103 => ?_)
        refine xi_iastore (pc' := 125) (x' := y103) kc_14_124 rfl A101 rfl (xi_in (by omega) (by rw [hy101]; omega)) s103 (fun hh103 eh103 => ?_)
        have K104 := xk_pa K99 (xk_wa rfl) xD_121 hy103 ry103 eh103
        refine xi_aload_n (pc' := 126) (x := 115) kc_14_125 rfl rfl ?_
        refine xi_iconst (pc' := 127) (v := 0) kc_14_126 rfl rfl ?_
        have A105 := ((eh103.2.1 115 (by decide)).trans A100)
        refine xi_putfield (pc' := 130) (fs' := [.int u1, .int u2, .ref 116, .ref 117, .ref 118, .ref 119, .ref 120, .ref 121, .ref 122, .ref 123, .ref 124, .ref 125, .ref 126, .ref 127, .ref 128, .ref 129, .int u3, .ref 130, .int u4, .ref 131, .ref 132, .ref 133, .ref 134, .int u5, .ref 135, .ref 136, .ref 137, .ref 138, .ref 139, .ref 140, .ref 141, .ref 142, .int u6, .int u7, .int u8, .ref 143, .ref 144, .ref 145, .ref 146, .ref 147, .ref 148, .int 0, .ref 149, .ref 150, .ref 151, .int u10, .ref 152, .ref 153, .ref 154, .ref 155, .ref 156, .ref 157, .ref 158, .ref 159, .int u11, .ref 160, .int u12, .ref 161, .ref 162, .ref 163, .ref 164, .int u13, .ref 165, .ref 166]) kc_14_127 rfl rfl rfl A105 rfl rfl rfl (Nat.le_of_ble_eq_true rfl) rfl (fun hh107 eh106 => ?_)
        have K108 := xk_pf (k := 41) (v := 0) K104 (xk_wf rfl) xD_115 A105 rfl (by first | omega | decide) (by first | omega | decide) eh106 rfl
        refine xi_return kc_14_130 mr_14 ?_
        exact kk hh107 K108
      · refine xi_cmt (pc' := 55) kc_14_48 rfl (xc_ne_t (X := x2.toInt) (Y := 2) rfl (by decide) (by omega)) ?_
        refine xi_aload_n (pc' := 56) (x := 115) kc_14_55 rfl rfl ?_
        refine xi_getfield (pc' := 59) (v := .ref 118) kc_14_56 rfl rfl rfl A85 rfl ?_
        refine xi_iload_n (pc' := 60) (x := x1) kc_14_59 rfl rfl ?_
        refine xcps4 (xk_arr K84.1 xD_118) (fun y109 A109 hy109 ry109 => ?_)
        refine xcps4 (xj_get hy109 ry109 (i := x1) (by omega) (by omega)) (fun v110 ev110 bv110 dv110 => ?_)
        refine xi_iaload (pc' := 61) (v := v110) kc_14_60 rfl A109 (by decide) rfl (xi_in (by omega) (by rw [hy109]; omega)) ev110 ?_
        refine xcps4 (xj_set (v := v110) hy109 ry109 x1 (by first | omega | decide) (by first | omega | decide)) (fun y111 s111 hy111 ry111 => ?_)
        refine xi_iastore (pc' := 62) (x' := y111) kc_14_61 rfl A109 rfl (xi_in (by omega) (by rw [hy109]; omega)) s111 (fun hh111 eh111 => ?_)
        have K112 := xk_pa K84 (xk_wa rfl) xD_118 hy111 ry111 eh111
        refine xi_aload_n (pc' := 63) (x := 115) kc_14_62 rfl rfl ?_
        have A113 := ((eh111.2.1 115 (by decide)).trans A85)
        refine xi_getfield (pc' := 66) (v := .ref 119) kc_14_63 rfl rfl rfl A113 rfl ?_
        refine xi_iload_n (pc' := 67) (x := x1) kc_14_66 rfl rfl ?_
        refine xi_iload_n (pc' := 68) (x := x2) kc_14_67 rfl rfl ?_
        refine xi_iconst (pc' := 69) (v := 3) kc_14_68 rfl rfl ?_
        by_cases c114 : x2.toInt = 3
        · refine xi_cmf (pc' := 72) kc_14_69 rfl (xc_ne_f (X := x2.toInt) (Y := 3) rfl (by decide) (by omega)) ?_
          refine xi_iload_n (pc' := 73) (x := x3) kc_14_72 rfl rfl ?_
          refine xi_goto (pc' := 82) kc_14_73 rfl ?_
          refine xcps4 (xk_arr K112.1 xD_119) (fun y115 A115 hy115 ry115 => ?_)
          refine xcps4 (xj_set (v := x3) hy115 ry115 x1 (by first | omega | decide) (by first | omega | decide)) (fun y116 s116 hy116 ry116 => ?_)
          refine xi_iastore (pc' := 83) (x' := y116) kc_14_82 rfl A115 rfl (xi_in (by omega) (by rw [hy115]; omega)) s116 (fun hh116 eh116 => ?_)
          have K117 := xk_pa K112 (xk_wa rfl) xD_119 hy116 ry116 eh116
          refine xi_aload_n (pc' := 84) (x := 115) kc_14_83 rfl rfl ?_
          have A118 := ((eh116.2.1 115 (by decide)).trans A113)
          refine xi_getfield (pc' := 87) (v := .ref 120) kc_14_84 rfl rfl rfl A118 rfl ?_
          refine xi_iload_n (pc' := 88) (x := x1) kc_14_87 rfl rfl ?_
          refine xi_iload_n (pc' := 89) (x := x2) kc_14_88 rfl rfl ?_
          refine xi_iconst (pc' := 90) (v := 4) kc_14_89 rfl rfl ?_
          refine xi_cmt (pc' := 97) kc_14_90 rfl (xc_ne_t (X := x2.toInt) (Y := 4) rfl (by decide) (by omega)) ?_
          refine xi_aload_n (pc' := 98) (x := 115) kc_14_97 rfl rfl ?_
          refine xi_getfield (pc' := 101) (v := .ref 120) kc_14_98 rfl rfl rfl A118 rfl ?_
          refine xi_iload_n (pc' := 102) (x := x1) kc_14_101 rfl rfl ?_
          refine xcps4 (xk_arr K117.1 xD_120) (fun y119 A119 hy119 ry119 => ?_)
          refine xcps4 (xj_get hy119 ry119 (i := x1) (by omega) (by omega)) (fun v120 ev120 bv120 dv120 => ?_)
          refine xi_iaload (pc' := 103) (v := v120) kc_14_102 rfl A119 (by decide) rfl (xi_in (by omega) (by rw [hy119]; omega)) ev120 ?_
          refine xcps4 (xj_set (v := v120) hy119 ry119 x1 (by first | omega | decide) (by first | omega | decide)) (fun y121 s121 hy121 ry121 => ?_)
          refine xi_iastore (pc' := 104) (x' := y121) kc_14_103 rfl A119 rfl (xi_in (by omega) (by rw [hy119]; omega)) s121 (fun hh121 eh121 => ?_)
          have K122 := xk_pa K117 (xk_wa rfl) xD_120 hy121 ry121 eh121
          refine xi_aload_n (pc' := 105) (x := 115) kc_14_104 rfl rfl ?_
          have A123 := ((eh121.2.1 115 (by decide)).trans A118)
          refine xi_getfield (pc' := 108) (v := .ref 121) kc_14_105 rfl rfl rfl A123 rfl ?_
          refine xi_iload_n (pc' := 109) (x := x1) kc_14_108 rfl rfl ?_
          refine xi_iload_n (pc' := 110) (x := x2) kc_14_109 rfl rfl ?_
          refine xi_iconst (pc' := 111) (v := 5) kc_14_110 rfl rfl ?_
          refine xi_cmt (pc' := 118) kc_14_111 rfl (xc_ne_t (X := x2.toInt) (Y := 5) rfl (by decide) (by omega)) ?_
          refine xi_aload_n (pc' := 119) (x := 115) kc_14_118 rfl rfl ?_
          refine xi_getfield (pc' := 122) (v := .ref 121) kc_14_119 rfl rfl rfl A123 rfl ?_
          refine xi_iload_n (pc' := 123) (x := x1) kc_14_122 rfl rfl ?_
          refine xcps4 (xk_arr K122.1 xD_121) (fun y124 A124 hy124 ry124 => ?_)
          refine xcps4 (xj_get hy124 ry124 (i := x1) (by omega) (by omega)) (fun v125 ev125 bv125 dv125 => ?_)
          refine xi_iaload (pc' := 124) (v := v125) kc_14_123 rfl A124 (by decide) rfl (xi_in (by omega) (by rw [hy124]; omega)) ev125 ?_
          refine xcps4 (xj_set (v := v125) hy124 ry124 x1 (by first | omega | decide) (by first | omega | decide)) (fun y126 s126 hy126 ry126 => ?_)
          refine xi_iastore (pc' := 125) (x' := y126) kc_14_124 rfl A124 rfl (xi_in (by omega) (by rw [hy124]; omega)) s126 (fun hh126 eh126 => ?_)
          have K127 := xk_pa K122 (xk_wa rfl) xD_121 hy126 ry126 eh126
          refine xi_aload_n (pc' := 126) (x := 115) kc_14_125 rfl rfl ?_
          refine xi_iconst (pc' := 127) (v := 0) kc_14_126 rfl rfl ?_
          have A128 := ((eh126.2.1 115 (by decide)).trans A123)
          refine xi_putfield (pc' := 130) (fs' := [.int u1, .int u2, .ref 116, .ref 117, .ref 118, .ref 119, .ref 120, .ref 121, .ref 122, .ref 123, .ref 124, .ref 125, .ref 126, .ref 127, .ref 128, .ref 129, .int u3, .ref 130, .int u4, .ref 131, .ref 132, .ref 133, .ref 134, .int u5, .ref 135, .ref 136, .ref 137, .ref 138, .ref 139, .ref 140, .ref 141, .ref 142, .int u6, .int u7, .int u8, .ref 143, .ref 144, .ref 145, .ref 146, .ref 147, .ref 148, .int 0, .ref 149, .ref 150, .ref 151, .int u10, .ref 152, .ref 153, .ref 154, .ref 155, .ref 156, .ref 157, .ref 158, .ref 159, .int u11, .ref 160, .int u12, .ref 161, .ref 162, .ref 163, .ref 164, .int u13, .ref 165, .ref 166]) kc_14_127 rfl rfl rfl A128 rfl rfl rfl (Nat.le_of_ble_eq_true rfl) rfl (fun hh130 eh129 => ?_)
          have K131 := xk_pf (k := 41) (v := 0) K127 (xk_wf rfl) xD_115 A128 rfl (by first | omega | decide) (by first | omega | decide) eh129 rfl
          refine xi_return kc_14_130 mr_14 ?_
          exact kk hh130 K131
        · refine xi_cmt (pc' := 76) kc_14_69 rfl (xc_ne_t (X := x2.toInt) (Y := 3) rfl (by decide) (by omega)) ?_
          refine xi_aload_n (pc' := 77) (x := 115) kc_14_76 rfl rfl ?_
          refine xi_getfield (pc' := 80) (v := .ref 119) kc_14_77 rfl rfl rfl A113 rfl ?_
          refine xi_iload_n (pc' := 81) (x := x1) kc_14_80 rfl rfl ?_
          refine xcps4 (xk_arr K112.1 xD_119) (fun y132 A132 hy132 ry132 => ?_)
          refine xcps4 (xj_get hy132 ry132 (i := x1) (by omega) (by omega)) (fun v133 ev133 bv133 dv133 => ?_)
          refine xi_iaload (pc' := 82) (v := v133) kc_14_81 rfl A132 (by decide) rfl (xi_in (by omega) (by rw [hy132]; omega)) ev133 ?_
          refine xcps4 (xj_set (v := v133) hy132 ry132 x1 (by first | omega | decide) (by first | omega | decide)) (fun y134 s134 hy134 ry134 => ?_)
          refine xi_iastore (pc' := 83) (x' := y134) kc_14_82 rfl A132 rfl (xi_in (by omega) (by rw [hy132]; omega)) s134 (fun hh134 eh134 => ?_)
          have K135 := xk_pa K112 (xk_wa rfl) xD_119 hy134 ry134 eh134
          refine xi_aload_n (pc' := 84) (x := 115) kc_14_83 rfl rfl ?_
          have A136 := ((eh134.2.1 115 (by decide)).trans A113)
          refine xi_getfield (pc' := 87) (v := .ref 120) kc_14_84 rfl rfl rfl A136 rfl ?_
          refine xi_iload_n (pc' := 88) (x := x1) kc_14_87 rfl rfl ?_
          refine xi_iload_n (pc' := 89) (x := x2) kc_14_88 rfl rfl ?_
          refine xi_iconst (pc' := 90) (v := 4) kc_14_89 rfl rfl ?_
          by_cases c137 : x2.toInt = 4
          · refine xi_cmf (pc' := 93) kc_14_90 rfl (xc_ne_f (X := x2.toInt) (Y := 4) rfl (by decide) (by omega)) ?_
            refine xi_iload_n (pc' := 94) (x := x3) kc_14_93 rfl rfl ?_
            refine xi_goto (pc' := 103) kc_14_94 rfl ?_
            refine xcps4 (xk_arr K135.1 xD_120) (fun y138 A138 hy138 ry138 => ?_)
            refine xcps4 (xj_set (v := x3) hy138 ry138 x1 (by first | omega | decide) (by first | omega | decide)) (fun y139 s139 hy139 ry139 => ?_)
            refine xi_iastore (pc' := 104) (x' := y139) kc_14_103 rfl A138 rfl (xi_in (by omega) (by rw [hy138]; omega)) s139 (fun hh139 eh139 => ?_)
            have K140 := xk_pa K135 (xk_wa rfl) xD_120 hy139 ry139 eh139
            refine xi_aload_n (pc' := 105) (x := 115) kc_14_104 rfl rfl ?_
            have A141 := ((eh139.2.1 115 (by decide)).trans A136)
            refine xi_getfield (pc' := 108) (v := .ref 121) kc_14_105 rfl rfl rfl A141 rfl ?_
            refine xi_iload_n (pc' := 109) (x := x1) kc_14_108 rfl rfl ?_
            refine xi_iload_n (pc' := 110) (x := x2) kc_14_109 rfl rfl ?_
            refine xi_iconst (pc' := 111) (v := 5) kc_14_110 rfl rfl ?_
            refine xi_cmt (pc' := 118) kc_14_111 rfl (xc_ne_t (X := x2.toInt) (Y := 5) rfl (by decide) (by omega)) ?_
            refine xi_aload_n (pc' := 119) (x := 115) kc_14_118 rfl rfl ?_
            refine xi_getfield (pc' := 122) (v := .ref 121) kc_14_119 rfl rfl rfl A141 rfl ?_
            refine xi_iload_n (pc' := 123) (x := x1) kc_14_122 rfl rfl ?_
            refine xcps4 (xk_arr K140.1 xD_121) (fun y142 A142 hy142 ry142 => ?_)
            refine xcps4 (xj_get hy142 ry142 (i := x1) (by omega) (by omega)) (fun v143 ev143 bv143 dv143 => ?_)
            refine xi_iaload (pc' := 124) (v := v143) kc_14_123 rfl A142 (by decide) rfl (xi_in (by omega) (by rw [hy142]; omega)) ev143 ?_
            refine xcps4 (xj_set (v := v143) hy142 ry142 x1 (by first | omega | decide) (by first | omega | decide)) (fun y144 s144 hy144 ry144 => ?_)
            refine xi_iastore (pc' := 125) (x' := y144) kc_14_124 rfl A142 rfl (xi_in (by omega) (by rw [hy142]; omega)) s144 (fun hh144 eh144 => ?_)
            have K145 := xk_pa K140 (xk_wa rfl) xD_121 hy144 ry144 eh144
            refine xi_aload_n (pc' := 126) (x := 115) kc_14_125 rfl rfl ?_
            refine xi_iconst (pc' := 127) (v := 0) kc_14_126 rfl rfl ?_
            have A146 := ((eh144.2.1 115 (by decide)).trans A141)
            refine xi_putfield (pc' := 130) (fs' := [.int u1, .int u2, .ref 116, .ref 117, .ref 118, .ref 119, .ref 120, .ref 121, .ref 122, .ref 123, .ref 124, .ref 125, .ref 126, .ref 127, .ref 128, .ref 129, .int u3, .ref 130, .int u4, .ref 131, .ref 132, .ref 133, .ref 134, .int u5, .ref 135, .ref 136, .ref 137, .ref 138, .ref 139, .ref 140, .ref 141, .ref 142, .int u6, .int u7, .int u8, .ref 143, .ref 144, .ref 145, .ref 146, .ref 147, .ref 148, .int 0, .ref 149, .ref 150, .ref 151, .int u10, .ref 152, .ref 153, .ref 154, .ref 155, .ref 156, .ref 157, .ref 158, .ref 159, .int u11, .ref 160, .int u12, .ref 161, .ref 162, .ref 163, .ref 164, .int u13, .ref 165, .ref 166]) kc_14_127 rfl rfl rfl A146 rfl rfl rfl (Nat.le_of_ble_eq_true rfl) rfl (fun hh148 eh147 => ?_)
            have K149 := xk_pf (k := 41) (v := 0) K145 (xk_wf rfl) xD_115 A146 rfl (by first | omega | decide) (by first | omega | decide) eh147 rfl
            refine xi_return kc_14_130 mr_14 ?_
            exact kk hh148 K149
          · refine xi_cmt (pc' := 97) kc_14_90 rfl (xc_ne_t (X := x2.toInt) (Y := 4) rfl (by decide) (by omega)) ?_
            refine xi_aload_n (pc' := 98) (x := 115) kc_14_97 rfl rfl ?_
            refine xi_getfield (pc' := 101) (v := .ref 120) kc_14_98 rfl rfl rfl A136 rfl ?_
            refine xi_iload_n (pc' := 102) (x := x1) kc_14_101 rfl rfl ?_
            refine xcps4 (xk_arr K135.1 xD_120) (fun y150 A150 hy150 ry150 => ?_)
            refine xcps4 (xj_get hy150 ry150 (i := x1) (by omega) (by omega)) (fun v151 ev151 bv151 dv151 => ?_)
            refine xi_iaload (pc' := 103) (v := v151) kc_14_102 rfl A150 (by decide) rfl (xi_in (by omega) (by rw [hy150]; omega)) ev151 ?_
            refine xcps4 (xj_set (v := v151) hy150 ry150 x1 (by first | omega | decide) (by first | omega | decide)) (fun y152 s152 hy152 ry152 => ?_)
            refine xi_iastore (pc' := 104) (x' := y152) kc_14_103 rfl A150 rfl (xi_in (by omega) (by rw [hy150]; omega)) s152 (fun hh152 eh152 => ?_)
            have K153 := xk_pa K135 (xk_wa rfl) xD_120 hy152 ry152 eh152
            refine xi_aload_n (pc' := 105) (x := 115) kc_14_104 rfl rfl ?_
            have A154 := ((eh152.2.1 115 (by decide)).trans A136)
            refine xi_getfield (pc' := 108) (v := .ref 121) kc_14_105 rfl rfl rfl A154 rfl ?_
            refine xi_iload_n (pc' := 109) (x := x1) kc_14_108 rfl rfl ?_
            refine xi_iload_n (pc' := 110) (x := x2) kc_14_109 rfl rfl ?_
            refine xi_iconst (pc' := 111) (v := 5) kc_14_110 rfl rfl ?_
            refine xi_cmf (pc' := 114) kc_14_111 rfl (xc_ne_f (X := x2.toInt) (Y := 5) rfl (by decide) (by omega)) ?_
            refine xi_iload_n (pc' := 115) (x := x3) kc_14_114 rfl rfl ?_
            refine xi_goto (pc' := 124) kc_14_115 rfl ?_
            refine xcps4 (xk_arr K153.1 xD_121) (fun y155 A155 hy155 ry155 => ?_)
            refine xcps4 (xj_set (v := x3) hy155 ry155 x1 (by first | omega | decide) (by first | omega | decide)) (fun y156 s156 hy156 ry156 => ?_)
            refine xi_iastore (pc' := 125) (x' := y156) kc_14_124 rfl A155 rfl (xi_in (by omega) (by rw [hy155]; omega)) s156 (fun hh156 eh156 => ?_)
            have K157 := xk_pa K153 (xk_wa rfl) xD_121 hy156 ry156 eh156
            refine xi_aload_n (pc' := 126) (x := 115) kc_14_125 rfl rfl ?_
            refine xi_iconst (pc' := 127) (v := 0) kc_14_126 rfl rfl ?_
            have A158 := ((eh156.2.1 115 (by decide)).trans A154)
            refine xi_putfield (pc' := 130) (fs' := [.int u1, .int u2, .ref 116, .ref 117, .ref 118, .ref 119, .ref 120, .ref 121, .ref 122, .ref 123, .ref 124, .ref 125, .ref 126, .ref 127, .ref 128, .ref 129, .int u3, .ref 130, .int u4, .ref 131, .ref 132, .ref 133, .ref 134, .int u5, .ref 135, .ref 136, .ref 137, .ref 138, .ref 139, .ref 140, .ref 141, .ref 142, .int u6, .int u7, .int u8, .ref 143, .ref 144, .ref 145, .ref 146, .ref 147, .ref 148, .int 0, .ref 149, .ref 150, .ref 151, .int u10, .ref 152, .ref 153, .ref 154, .ref 155, .ref 156, .ref 157, .ref 158, .ref 159, .int u11, .ref 160, .int u12, .ref 161, .ref 162, .ref 163, .ref 164, .int u13, .ref 165, .ref 166]) kc_14_127 rfl rfl rfl A158 rfl rfl rfl (Nat.le_of_ble_eq_true rfl) rfl (fun hh160 eh159 => ?_)
            have K161 := xk_pf (k := 41) (v := 0) K157 (xk_wf rfl) xD_115 A158 rfl (by first | omega | decide) (by first | omega | decide) eh159 rfl
            refine xi_return kc_14_130 mr_14 ?_
            exact kk hh160 K161
set_option maxHeartbeats 4000000 in
theorem mt_147_0 {J : xe_J} {ov : List (List Int32)} (hJ : ∀ d mj as h, mj ≠ xe_loff → J d mj as h = none) (hov1 : ov[1]? = some [10, 0, 0, 0, 0, 0]) (hov2 : ov[2]? = some [99, 30, 50, 50, 1, 99999]) {d : Nat} {Q : Option Value → xe_H → Prop} {h : xe_H} {x1 : Int32} (T : xt h) (b1 : (0 ≤ x1.toInt ∧ x1.toInt ≤ 59)) (kk : (∀ (r : Int32) (h' : xe_H), xk [(0, 9), (115, 1), (83, 0), (29, 0), (31, 0), (33, 0), (35, 0), (37, 0), (39, 0), (41, 0), (43, 0), (45, 0), (47, 0), (49, 0), (51, 0), (125, 0), (66, 8), (115, 18), (71, 0), (132, 0)] h h' → Q (some (.int r)) h')) : xw J ov (d + 1) 147 (0, [(0, .ref 66), (1, .int x1)], [], h) Q := by
  have K : xk [(0, 9), (115, 1), (83, 0), (29, 0), (31, 0), (33, 0), (35, 0), (37, 0), (39, 0), (41, 0), (43, 0), (45, 0), (47, 0), (49, 0), (51, 0), (125, 0), (66, 8), (115, 18), (71, 0), (132, 0)] h h := xk_re T
  refine xi_iload_n (pc' := 1) (x := x1) kc_147_0 rfl rfl ?_
  refine xi_iff (pc' := 4) kc_147_1 rfl (xc_lt_f (X := x1.toInt) (Y := 0) rfl (by decide) (by omega)) ?_
  refine xi_iload_n (pc' := 5) (x := x1) kc_147_4 rfl rfl ?_
  refine xi_bipush (pc' := 7) (v := 60) kc_147_5 rfl rfl ?_
  refine xi_cmf (pc' := 10) kc_147_7 rfl (xc_ge_f (X := x1.toInt) (Y := 60) rfl (by decide) (by omega)) ?_
  refine xi_aload_n (pc' := 11) (x := 66) kc_147_10 rfl rfl ?_
  refine xp_66 K.1 (fun u2 wl1 bu2 A3 => ?_)
  refine xi_getfield (pc' := 14) (v := .ref 70) kc_147_11 rfl rfl rfl A3 rfl ?_
  refine xi_iload_n (pc' := 15) (x := x1) kc_147_14 rfl rfl ?_
  refine xcps4 (xk_arr K.1 xD_70) (fun y4 A4 hy4 ry4 => ?_)
  refine xcps4 (xj_get hy4 ry4 (i := x1) (by omega) (by omega)) (fun v5 ev5 bv5 dv5 => ?_)
  refine xi_iaload (pc' := 16) (v := v5) kc_147_15 rfl A4 (by decide) rfl (xi_in (by omega) (by rw [hy4]; omega)) ev5 ?_
  refine xi_static (mj := 104) (as := [.int v5]) (st1 := []) (lv0 := [(0, .int v5)]) kc_147_16 rfl rfl (Nat.le_of_ble_eq_true rfl) rfl rfl (Nat.le_of_ble_eq_true rfl) (hJ _ _ _ _ (by decide)) (xm_le ml_104 rfl) rfl ?_
  refine xi_iload_n (pc' := 1) (x := v5) kc_104_0 rfl rfl ?_
  by_cases c6 : v5.toInt < 0
  · refine xi_ift (pc' := 14) kc_104_1 rfl (xc_lt_t (X := v5.toInt) (Y := 0) rfl (by decide) (by omega)) ?_
    refine xi_iconst (pc' := 15) (v := 0) kc_104_14 rfl rfl ?_
    refine xi_ireturn kc_104_15 mr_104 rfl ?_
    show xw J ov (d + 1) 147 (19, [(0, .ref 66), (1, .int x1)], [.int 0], h) _
    refine xi_iff (pc' := 22) kc_147_19 rfl rfl ?_
    refine xi_iconst (pc' := 23) (v := 0) kc_147_22 rfl rfl ?_
    refine xi_ireturn kc_147_23 mr_147 rfl ?_
    have zc0 : (0 : Int32).toInt = 0 := by decide
    exact kk 0 h K
  · refine xi_iff (pc' := 4) kc_104_1 rfl (xc_lt_f (X := v5.toInt) (Y := 0) rfl (by decide) (by omega)) ?_
    refine xi_iload_n (pc' := 5) (x := v5) kc_104_4 rfl rfl ?_
    refine xi_bipush (pc' := 7) (v := 12) kc_104_5 rfl rfl ?_
    by_cases c7 : 12 ≤ v5.toInt
    · refine xi_cmt (pc' := 14) kc_104_7 rfl (xc_ge_t (X := v5.toInt) (Y := 12) rfl (by decide) (by omega)) ?_
      refine xi_iconst (pc' := 15) (v := 0) kc_104_14 rfl rfl ?_
      refine xi_ireturn kc_104_15 mr_104 rfl ?_
      show xw J ov (d + 1) 147 (19, [(0, .ref 66), (1, .int x1)], [.int 0], h) _
      refine xi_iff (pc' := 22) kc_147_19 rfl rfl ?_
      refine xi_iconst (pc' := 23) (v := 0) kc_147_22 rfl rfl ?_
      refine xi_ireturn kc_147_23 mr_147 rfl ?_
      have zc0 : (0 : Int32).toInt = 0 := by decide
      exact kk 0 h K
    · refine xi_cmf (pc' := 10) kc_104_7 rfl (xc_ge_f (X := v5.toInt) (Y := 12) rfl (by decide) (by omega)) ?_
      refine xi_iconst (pc' := 11) (v := 1) kc_104_10 rfl rfl ?_
      refine xi_goto (pc' := 15) kc_104_11 rfl ?_
      refine xi_ireturn kc_104_15 mr_104 rfl ?_
      show xw J ov (d + 1) 147 (19, [(0, .ref 66), (1, .int x1)], [.int 1], h) _
      refine xi_ift (pc' := 24) kc_147_19 rfl rfl ?_
      refine xi_aload_n (pc' := 25) (x := 66) kc_147_24 rfl rfl ?_
      refine xi_getfield (pc' := 28) (v := .ref 67) kc_147_25 rfl rfl rfl A3 rfl ?_
      refine xp_67 K.1 (fun u8 u9 bu8 bu9 A10 => ?_)
      refine xi_getfield (pc' := 31) (v := .ref 69) kc_147_28 rfl rfl rfl A10 rfl ?_
      refine xi_aload_n (pc' := 32) (x := 66) kc_147_31 rfl rfl ?_
      refine xi_getfield (pc' := 35) (v := .ref 70) kc_147_32 rfl rfl rfl A3 rfl ?_
      refine xi_iload_n (pc' := 36) (x := x1) kc_147_35 rfl rfl ?_
      refine xi_iaload (pc' := 37) (v := v5) kc_147_36 rfl A4 (by decide) rfl (xi_in (by omega) (by rw [hy4]; omega)) ev5 ?_
      refine xcps4 (xk_arr K.1 xD_69) (fun y11 A11 hy11 ry11 => ?_)
      refine xcps4 (xj_get hy11 ry11 (i := v5) (by omega) (by omega)) (fun v12 ev12 bv12 dv12 => ?_)
      refine xi_iaload (pc' := 38) (v := v12) kc_147_37 rfl A11 (by decide) rfl (xi_in (by omega) (by rw [hy11]; omega)) ev12 ?_
      refine xi_istore_n (pc' := 39) (lv' := [(2, .int v12), (0, .ref 66), (1, .int x1)]) kc_147_38 rfl rfl (xm_lt ml_147 rfl) ?_
      refine xi_iload_n (pc' := 40) (x := v12) kc_147_39 rfl rfl ?_
      refine xi_aload_n (pc' := 41) (x := 66) kc_147_40 rfl rfl ?_
      refine xi_getfield (pc' := 44) (v := .ref 72) kc_147_41 rfl rfl rfl A3 rfl ?_
      refine xi_iload_n (pc' := 45) (x := x1) kc_147_44 rfl rfl ?_
      refine xcps4 (xk_arr K.1 xD_72) (fun y13 A13 hy13 ry13 => ?_)
      refine xcps4 (xj_get hy13 ry13 (i := x1) (by omega) (by omega)) (fun v14 ev14 bv14 dv14 => ?_)
      refine xi_iaload (pc' := 46) (v := v14) kc_147_45 rfl A13 (by decide) rfl (xi_in (by omega) (by rw [hy13]; omega)) ev14 ?_
      by_cases c15 : v14.toInt ≤ v12.toInt
      · refine xi_cmt (pc' := 58) kc_147_46 rfl (xc_ge_t (X := v12.toInt) (Y := v14.toInt) rfl rfl (by omega)) ?_
        refine xi_iload_n (pc' := 59) (x := v12) kc_147_58 rfl rfl ?_
        refine xi_aload_n (pc' := 60) (x := 66) kc_147_59 rfl rfl ?_
        refine xi_getfield (pc' := 63) (v := .ref 73) kc_147_60 rfl rfl rfl A3 rfl ?_
        refine xi_iload_n (pc' := 64) (x := x1) kc_147_63 rfl rfl ?_
        refine xcps4 (xk_arr K.1 xD_73) (fun y16 A16 hy16 ry16 => ?_)
        refine xcps4 (xj_get hy16 ry16 (i := x1) (by omega) (by omega)) (fun v17 ev17 bv17 dv17 => ?_)
        refine xi_iaload (pc' := 65) (v := v17) kc_147_64 rfl A16 (by decide) rfl (xi_in (by omega) (by rw [hy16]; omega)) ev17 ?_
        by_cases c18 : v12.toInt ≤ v17.toInt
        · refine xi_cmt (pc' := 79) kc_147_65 rfl (xc_le_t (X := v12.toInt) (Y := v17.toInt) rfl rfl (by omega)) ?_
          refine xi_iconst (pc' := 80) (v := 0) kc_147_79 rfl rfl ?_
          refine xi_ireturn kc_147_80 mr_147 rfl ?_
          have zc0 : (0 : Int32).toInt = 0 := by decide
          exact kk 0 h K
        · refine xi_cmf (pc' := 68) kc_147_65 rfl (xc_le_f (X := v12.toInt) (Y := v17.toInt) rfl rfl (by omega)) ?_
          refine xi_iload_n (pc' := 69) (x := v12) kc_147_68 rfl rfl ?_
          refine xi_aload_n (pc' := 70) (x := 66) kc_147_69 rfl rfl ?_
          refine xi_getfield (pc' := 73) (v := .ref 73) kc_147_70 rfl rfl rfl A3 rfl ?_
          refine xi_iload_n (pc' := 74) (x := x1) kc_147_73 rfl rfl ?_
          refine xi_iaload (pc' := 75) (v := v17) kc_147_74 rfl A16 (by decide) rfl (xi_in (by omega) (by rw [hy16]; omega)) ev17 ?_
          refine xcps2 (α := Int32) ((v12 : Int32) - v17) (fun v19 ev19 => ?_)
          have rv19 := xc_rng v19
          refine xi_isub (pc' := 76) (v := v19) kc_147_75 rfl ev19 ?_
          refine xi_goto (pc' := 80) kc_147_76 rfl ?_
          refine xi_ireturn kc_147_80 mr_147 rfl ?_
          exact kk v19 h K
      · refine xi_cmf (pc' := 49) kc_147_46 rfl (xc_ge_f (X := v12.toInt) (Y := v14.toInt) rfl rfl (by omega)) ?_
        refine xi_aload_n (pc' := 50) (x := 66) kc_147_49 rfl rfl ?_
        refine xi_getfield (pc' := 53) (v := .ref 72) kc_147_50 rfl rfl rfl A3 rfl ?_
        refine xi_iload_n (pc' := 54) (x := x1) kc_147_53 rfl rfl ?_
        refine xi_iaload (pc' := 55) (v := v14) kc_147_54 rfl A13 (by decide) rfl (xi_in (by omega) (by rw [hy13]; omega)) ev14 ?_
        refine xi_iload_n (pc' := 56) (x := v12) kc_147_55 rfl rfl ?_
        refine xcps2 (α := Int32) ((v14 : Int32) - v12) (fun v20 ev20 => ?_)
        have rv20 := xc_rng v20
        refine xi_isub (pc' := 57) (v := v20) kc_147_56 rfl ev20 ?_
        refine xi_ireturn kc_147_57 mr_147 rfl ?_
        exact kk v20 h K
set_option maxHeartbeats 4000000 in
theorem lp_146_0 {J : xe_J} {ov : List (List Int32)} (hJ : ∀ d mj as h, mj ≠ xe_loff → J d mj as h = none) (hov1 : ov[1]? = some [10, 0, 0, 0, 0, 0]) (hov2 : ov[2]? = some [99, 30, 50, 50, 1, 99999]) {d : Nat} {Q : Option Value → xe_H → Prop} {hb : xe_H} (kk : (∀ (r : Int64) (h' : xe_H), xk [(0, 9), (115, 1), (83, 0), (29, 0), (31, 0), (33, 0), (35, 0), (37, 0), (39, 0), (41, 0), (43, 0), (45, 0), (47, 0), (49, 0), (51, 0), (125, 0), (66, 8), (115, 18), (71, 0), (132, 0)] hb h' → Q (some (.long r)) h')) : ∀ m : Nat, (∀ (x1 : Int32) (w2 : Int64) (x4 : Int32) (x5 : Int32) (h : xe_H), (0 ≤ x1.toInt ∧ x1.toInt ≤ 63) → (0 ≤ x4.toInt ∧ x4.toInt ≤ 600) → (0 ≤ x5.toInt ∧ x5.toInt ≤ 60) → xk [(0, 9), (115, 1), (83, 0), (29, 0), (31, 0), (33, 0), (35, 0), (37, 0), (39, 0), (41, 0), (43, 0), (45, 0), (47, 0), (49, 0), (51, 0), (125, 0), (66, 8), (115, 18), (71, 0), (132, 0)] hb h → (-602) * x5.toInt + 36721 < (m : Int) → xw J ov (d + 5) 146 (53, [(0, .ref 66), (1, .int x1), (2, .long w2), (4, .int x4), (5, .int x5)], [], h) Q) ∧ (∀ (x1 : Int32) (w2 : Int64) (x5 : Int32) (x6 : Int32) (h : xe_H), (0 ≤ x1.toInt ∧ x1.toInt ≤ 63) → (0 ≤ x5.toInt ∧ x5.toInt ≤ 59) → (0 ≤ x6.toInt ∧ x6.toInt ≤ 600) → xk [(0, 9), (115, 1), (83, 0), (29, 0), (31, 0), (33, 0), (35, 0), (37, 0), (39, 0), (41, 0), (43, 0), (45, 0), (47, 0), (49, 0), (51, 0), (125, 0), (66, 8), (115, 18), (71, 0), (132, 0)] hb h → (-602) * x5.toInt + (-1) * x6.toInt + 36720 < (m : Int) → xw J ov (d + 5) 146 (73, [(0, .ref 66), (1, .int x1), (2, .long w2), (5, .int x5), (6, .int x6)], [], h) Q) := by
  intro m
  induction m with
  | zero =>
    refine ⟨?_, ?_⟩
    · intro x1 w2 x4 x5 h b1 b4 b5 K hm; exfalso; omega
    · intro x1 w2 x5 x6 h b1 b5 b6 K hm; exfalso; omega
  | succ m ih =>
    obtain ⟨i0, i1⟩ := ih
    refine ⟨?_, ?_⟩
    · intro x1 w2 x4 x5 h b1 b4 b5 K hm
      refine xi_iload (pc' := 55) (x := x5) kc_146_53 rfl rfl ?_
      refine xi_aload_n (pc' := 56) (x := 66) kc_146_55 rfl rfl ?_
      refine xp_66 K.1 (fun u2 wl1 bu2 A3 => ?_)
      refine xi_getfield (pc' := 59) (v := .int u2) kc_146_56 rfl rfl rfl A3 rfl ?_
      by_cases c4 : u2.toInt ≤ x5.toInt
      · refine xi_cmt (pc' := 129) kc_146_59 rfl (xc_ge_t (X := x5.toInt) (Y := u2.toInt) rfl rfl (by omega)) ?_
        refine xi_aload_n (pc' := 130) (x := 66) kc_146_129 rfl rfl ?_
        refine xi_getfield (pc' := 133) (v := .ref 74) kc_146_130 rfl rfl rfl A3 rfl ?_
        refine xi_iload_n (pc' := 134) (x := x1) kc_146_133 rfl rfl ?_
        refine xi_lload_n (pc' := 135) (x := w2) kc_146_134 rfl rfl ?_
        obtain ⟨y5, A5, hy5⟩ := xk_larr K.1 xD_74
        obtain ⟨y6, s6, hy6⟩ := xj_lset (v := w2) hy5 x1
        refine xi_lastore (pc' := 136) (x' := y6) kc_146_135 rfl A5 rfl (xi_in (by omega) (by rw [hy5]; omega)) s6 (fun hh6 eh6 => ?_)
        have K7 := xk_pla K (xk_wa rfl) xD_74 hy6 eh6
        refine xi_aload_n (pc' := 137) (x := 66) kc_146_136 rfl rfl ?_
        refine xi_dup (pc' := 138) kc_146_137 rfl rfl ?_
        have A8 := ((eh6.2.1 66 (by decide)).trans A3)
        refine xi_getfield (pc' := 141) (v := .long wl1) kc_146_138 rfl rfl rfl A8 rfl ?_
        refine xi_lconst (pc' := 142) (v := 1) kc_146_141 rfl rfl ?_
        refine xi_iload_n (pc' := 143) (x := x1) kc_146_142 rfl rfl ?_
        refine xcps2 (α := Int64) ((1 : Int64) <<< ((x1 : Int32).toInt64 &&& 63)) (fun v9 ev9 => ?_)
        refine xi_lshl (pc' := 144) (v := v9) kc_146_143 rfl ev9 ?_
        refine xcps2 (α := Int64) ((wl1 : Int64) ||| v9) (fun v10 ev10 => ?_)
        refine xi_lor (pc' := 145) (v := v10) kc_146_144 rfl ev10 ?_
        refine xi_putfield (pc' := 148) (fs' := [.ref 1, .ref 67, .ref 70, .ref 71, .ref 72, .ref 73, .ref 74, .long v10, .int u2]) kc_146_145 rfl rfl rfl A8 rfl rfl rfl (Nat.le_of_ble_eq_true rfl) rfl (fun hh12 eh11 => ?_)
        have K13 := xk_pl (k := 7) (v := v10) K7 (xk_wf rfl) xD_66 A8 rfl eh11 rfl
        refine xi_lload_n (pc' := 149) (x := w2) kc_146_148 rfl rfl ?_
        refine xi_lreturn kc_146_149 mr_146 ?_
        exact kk w2 hh12 K13
      · refine xi_cmf (pc' := 62) kc_146_59 rfl (xc_ge_f (X := x5.toInt) (Y := u2.toInt) rfl rfl (by omega)) ?_
        refine xi_iload (pc' := 64) (x := x5) kc_146_62 rfl rfl ?_
        refine xi_bipush (pc' := 66) (v := 60) kc_146_64 rfl rfl ?_
        refine xi_cmf (pc' := 69) kc_146_66 rfl (xc_ge_f (X := x5.toInt) (Y := 60) rfl (by decide) (by omega)) ?_
        refine xi_iload (pc' := 71) (x := x4) kc_146_69 rfl rfl ?_
        refine xi_istore (pc' := 73) (lv' := [(6, .int x4), (0, .ref 66), (1, .int x1), (2, .long w2), (4, .int x4), (5, .int x5)]) kc_146_71 rfl rfl (xm_lt ml_146 rfl) ?_
        refine xw_lv (b := [(0, .ref 66), (1, .int x1), (2, .long w2), (5, .int x5), (6, .int x4)]) (lvS_cons (lvS_cons (lvS_cons (lvS_cons (lvS_cons (lvS_nil (show ([6, 0, 1, 2, 4, 5] : List Nat).Nodup by decide)) rfl) rfl) rfl) rfl) rfl) ?_
        exact i1 x1 w2 x5 x4 h (by omega) (by omega) (by omega) K (by omega)
    · intro x1 w2 x5 x6 h b1 b5 b6 K hm
      refine xi_iload (pc' := 75) (x := x6) kc_146_73 rfl rfl ?_
      refine xi_aload_n (pc' := 76) (x := 66) kc_146_75 rfl rfl ?_
      refine xp_66 K.1 (fun u2 wl1 bu2 A3 => ?_)
      refine xi_getfield (pc' := 79) (v := .ref 71) kc_146_76 rfl rfl rfl A3 rfl ?_
      refine xi_iload (pc' := 81) (x := x5) kc_146_79 rfl rfl ?_
      refine xcps4 (xk_arr K.1 xD_71) (fun y4 A4 hy4 ry4 => ?_)
      refine xcps4 (xj_get hy4 ry4 (i := x5) (by omega) (by omega)) (fun v5 ev5 bv5 dv5 => ?_)
      refine xi_iaload (pc' := 82) (v := v5) kc_146_81 rfl A4 (by decide) rfl (xi_in (by omega) (by rw [hy4]; omega)) ev5 ?_
      by_cases c6 : v5.toInt ≤ x6.toInt
      · refine xi_cmt (pc' := 104) kc_146_82 rfl (xc_ge_t (X := x6.toInt) (Y := v5.toInt) rfl rfl (by omega)) ?_
        refine xi_aload_n (pc' := 105) (x := 66) kc_146_104 rfl rfl ?_
        refine xi_getfield (pc' := 108) (v := .ref 71) kc_146_105 rfl rfl rfl A3 rfl ?_
        refine xi_iload (pc' := 110) (x := x5) kc_146_108 rfl rfl ?_
        refine xi_iaload (pc' := 111) (v := v5) kc_146_110 rfl A4 (by decide) rfl (xi_in (by omega) (by rw [hy4]; omega)) ev5 ?_
        refine xi_istore (pc' := 113) (lv' := [(4, .int v5), (0, .ref 66), (1, .int x1), (2, .long w2), (5, .int x5), (6, .int x6)]) kc_146_111 rfl rfl (xm_lt ml_146 rfl) ?_
        refine xi_lload_n (pc' := 114) (x := w2) kc_146_113 rfl rfl ?_
        refine xi_aload_n (pc' := 115) (x := 66) kc_146_114 rfl rfl ?_
        refine xi_iload (pc' := 117) (x := x5) kc_146_115 rfl rfl ?_
        refine xi_virtual (mj := 147) (as := [.int x5]) (st1 := [.long w2]) (lv0 := [(0, .ref 66), (1, .int x5)]) kc_146_117 rfl rfl rfl rfl rfl A3 (Nat.le_of_ble_eq_true rfl) (hJ _ _ _ _ (by decide)) (xm_le ml_147 rfl) rfl ?_
        refine mt_147_0 hJ hov1 hov2 (d := d + 3) (x1 := x5) K.1 (by first | omega | decide) (fun r7 hh8 K9 => ?_)
        have br7 := xc_rng r7
        have K10 := xk_tr K K9 rfl
        refine xp_66 K10.1 (fun u12 wl11 bu12 A13 => ?_)
        have e14 : u2 = u12 := xk_eqi (q := 8) K9 rfl A3 A13 rfl rfl
        subst e14
        have A15 := xk_eqa (q := 0) K9 rfl A4
        show xw J ov (d + 5) 146 (120, [(4, .int v5), (0, .ref 66), (1, .int x1), (2, .long w2), (5, .int x5), (6, .int x6)], [.int r7, .long w2], hh8) _
        obtain ⟨v16, ev16⟩ : ∃ q, (r7 : Int32).toInt64 = q := ⟨_, rfl⟩
        refine xi_i2l (pc' := 121) (v := v16) kc_146_120 rfl ev16 ?_
        refine xcps2 (α := Int64) ((w2 : Int64) + v16) (fun v17 ev17 => ?_)
        refine xi_ladd (pc' := 122) (v := v17) kc_146_121 rfl ev17 ?_
        refine xi_lstore_n (pc' := 123) (lv' := [(2, .long v17), (4, .int v5), (0, .ref 66), (1, .int x1), (5, .int x5), (6, .int x6)]) kc_146_122 rfl rfl (xm_lt ml_146 rfl) ?_
        refine xcps2 (α := Int32) (x5 + 1) (fun v18 ev18 => ?_)
        have zv18 : v18.toInt = (x5.toInt + 1) := by rw [← ev18]; exact (xz_add (X := x5.toInt) (Y := 1) rfl (by decide) (by omega) (by omega)).trans (by omega)
        refine xi_iinc (pc' := 126) (x := x5) (v := v18) (lv' := [(5, .int v18), (2, .long v17), (4, .int v5), (0, .ref 66), (1, .int x1), (6, .int x6)]) kc_146_123 rfl rfl ev18 rfl (xm_lt ml_146 rfl) ?_
        refine xi_goto (pc' := 53) kc_146_126 rfl ?_
        refine xw_lv (b := [(0, .ref 66), (1, .int x1), (2, .long v17), (4, .int v5), (5, .int v18)]) (lvS_cons (lvS_cons (lvS_cons (lvS_cons (lvS_cons (lvS_nil (show ([5, 2, 4, 0, 1, 6] : List Nat).Nodup by decide)) rfl) rfl) rfl) rfl) rfl) ?_
        exact i0 x1 v17 v5 v18 hh8 (by omega) (by omega) (by omega) K10 (by omega)
      · refine xi_cmf (pc' := 85) kc_146_82 rfl (xc_ge_f (X := x6.toInt) (Y := v5.toInt) rfl rfl (by omega)) ?_
        refine xi_aload_n (pc' := 86) (x := 66) kc_146_85 rfl rfl ?_
        refine xi_getfield (pc' := 89) (v := .ref 1) kc_146_86 rfl rfl rfl A3 rfl ?_
        refine xi_aload_n (pc' := 90) (x := 66) kc_146_89 rfl rfl ?_
        refine xi_getfield (pc' := 93) (v := .ref 67) kc_146_90 rfl rfl rfl A3 rfl ?_
        refine xi_iload (pc' := 95) (x := x6) kc_146_93 rfl rfl ?_
        refine xp_1 K.1 (fun u19 u20 bu19 bu20 A21 => ?_)
        refine xi_virtual (mj := 124) (as := [.ref 67, .int x6]) (st1 := []) (lv0 := [(0, .ref 1), (1, .ref 67), (2, .int x6)]) kc_146_95 rfl rfl rfl rfl rfl A21 (Nat.le_of_ble_eq_true rfl) (hJ _ _ _ _ (by decide)) (xm_le ml_124 rfl) rfl ?_
        refine mt_124_1 hJ hov1 hov2 (d := d) (x2 := x6) K.1 (by first | omega | decide) (fun hh23 K24 => ?_)
        have K25 := xk_tr K K24 rfl
        refine xp_66 K25.1 (fun u27 wl26 bu27 A28 => ?_)
        have e29 : u2 = u27 := xk_eqi (q := 8) K24 rfl A3 A28 rfl rfl
        subst e29
        have A30 := xk_eqa (q := 0) K24 rfl A4
        show xw J ov (d + 5) 146 (98, [(0, .ref 66), (1, .int x1), (2, .long w2), (5, .int x5), (6, .int x6)], [], hh23) _
        refine xcps2 (α := Int32) (x6 + 1) (fun v31 ev31 => ?_)
        have zv31 : v31.toInt = (x6.toInt + 1) := by rw [← ev31]; exact (xz_add (X := x6.toInt) (Y := 1) rfl (by decide) (by omega) (by omega)).trans (by omega)
        refine xi_iinc (pc' := 101) (x := x6) (v := v31) (lv' := [(6, .int v31), (0, .ref 66), (1, .int x1), (2, .long w2), (5, .int x5)]) kc_146_98 rfl rfl ev31 rfl (xm_lt ml_146 rfl) ?_
        refine xi_goto (pc' := 73) kc_146_101 rfl ?_
        refine xw_lv (b := [(0, .ref 66), (1, .int x1), (2, .long w2), (5, .int x5), (6, .int v31)]) (lvS_cons (lvS_cons (lvS_cons (lvS_cons (lvS_cons (lvS_nil (show ([6, 0, 1, 2, 5] : List Nat).Nodup by decide)) rfl) rfl) rfl) rfl) rfl) ?_
        exact i1 x1 w2 x5 v31 hh23 (by omega) (by omega) (by omega) K25 (by omega)
set_option maxHeartbeats 4000000 in
theorem mt_146_0 {J : xe_J} {ov : List (List Int32)} (hJ : ∀ d mj as h, mj ≠ xe_loff → J d mj as h = none) (hov1 : ov[1]? = some [10, 0, 0, 0, 0, 0]) (hov2 : ov[2]? = some [99, 30, 50, 50, 1, 99999]) {d : Nat} {Q : Option Value → xe_H → Prop} {h : xe_H} {x1 : Int32} (T : xt h) (kk : (∀ (r : Int64) (h' : xe_H), xk [(0, 9), (115, 1), (83, 0), (29, 0), (31, 0), (33, 0), (35, 0), (37, 0), (39, 0), (41, 0), (43, 0), (45, 0), (47, 0), (49, 0), (51, 0), (125, 0), (66, 8), (115, 18), (71, 0), (132, 0)] h h' → Q (some (.long r)) h')) : xw J ov (d + 5) 146 (0, [(0, .ref 66), (1, .int x1)], [], h) Q := by
  have K : xk [(0, 9), (115, 1), (83, 0), (29, 0), (31, 0), (33, 0), (35, 0), (37, 0), (39, 0), (41, 0), (43, 0), (45, 0), (47, 0), (49, 0), (51, 0), (125, 0), (66, 8), (115, 18), (71, 0), (132, 0)] h h := xk_re T
  have rx1 := xc_rng x1
  refine xi_aload_n (pc' := 1) (x := 66) kc_146_0 rfl rfl ?_
  refine xi_iload_n (pc' := 2) (x := x1) kc_146_1 rfl rfl ?_
  refine xp_66 K.1 (fun u2 wl1 bu2 A3 => ?_)
  refine xi_virtual (mj := 138) (as := [.int x1]) (st1 := []) (lv0 := [(0, .ref 66), (1, .int x1)]) kc_146_2 rfl rfl rfl rfl rfl A3 (Nat.le_of_ble_eq_true rfl) (hJ _ _ _ _ (by decide)) (xm_le ml_138 rfl) rfl ?_
  refine xi_iload_n (pc' := 1) (x := x1) kc_138_0 rfl rfl ?_
  by_cases c4 : x1.toInt < 0
  · refine xi_ift (pc' := 16) kc_138_1 rfl (xc_lt_t (X := x1.toInt) (Y := 0) rfl (by decide) (by omega)) ?_
    refine xi_iconst (pc' := 17) (v := 0) kc_138_16 rfl rfl ?_
    refine xi_ireturn kc_138_17 mr_138 rfl ?_
    show xw J ov (d + 5) 146 (5, [(0, .ref 66), (1, .int x1)], [.int 0], h) _
    refine xi_iff (pc' := 8) kc_146_5 rfl rfl ?_
    refine xi_lconst (pc' := 9) (v := 0) kc_146_8 rfl rfl ?_
    refine xi_lreturn kc_146_9 mr_146 ?_
    exact kk 0 h K
  · refine xi_iff (pc' := 4) kc_138_1 rfl (xc_lt_f (X := x1.toInt) (Y := 0) rfl (by decide) (by omega)) ?_
    refine xi_iload_n (pc' := 5) (x := x1) kc_138_4 rfl rfl ?_
    refine xi_aload_n (pc' := 6) (x := 66) kc_138_5 rfl rfl ?_
    refine xi_virtual (mj := 139) (as := []) (st1 := [.int x1]) (lv0 := [(0, .ref 66)]) kc_138_6 rfl rfl rfl rfl rfl A3 (Nat.le_of_ble_eq_true rfl) (hJ _ _ _ _ (by decide)) (xm_le ml_139 rfl) rfl ?_
    refine xi_iconst (pc' := 1) (v := 1) kc_139_0 rfl rfl ?_
    refine xi_aload_n (pc' := 2) (x := 66) kc_139_1 rfl rfl ?_
    refine xi_getfield (pc' := 5) (v := .ref 1) kc_139_2 rfl rfl rfl A3 rfl ?_
    refine xp_1 K.1 (fun u5 u6 bu5 bu6 A7 => ?_)
    refine xi_virtual (mj := 140) (as := []) (st1 := [.int 1]) (lv0 := [(0, .ref 1)]) kc_139_5 rfl rfl rfl rfl rfl A7 (Nat.le_of_ble_eq_true rfl) (hJ _ _ _ _ (by decide)) (xm_le ml_140 rfl) rfl ?_
    refine xi_aload_n (pc' := 1) (x := 1) kc_140_0 rfl rfl ?_
    refine xi_getfield (pc' := 4) (v := .int u5) kc_140_1 rfl rfl rfl A7 rfl ?_
    refine xi_bipush (pc' := 6) (v := 6) kc_140_4 rfl rfl ?_
    by_cases c8 : 6 ≤ u5.toInt
    · refine xi_cmt (pc' := 16) kc_140_6 rfl (xc_ge_t (X := u5.toInt) (Y := 6) rfl (by decide) (by omega)) ?_
      refine xi_bipush (pc' := 18) (v := 6) kc_140_16 rfl rfl ?_
      refine xi_ireturn kc_140_18 mr_140 rfl ?_
      show xw J ov (d + 3) 139 (8, [(0, .ref 66)], [.int 6, .int 1], h) _
      refine xi_ishl (pc' := 9) (v := 64) kc_139_8 rfl rfl ?_
      refine xi_ireturn kc_139_9 mr_139 rfl ?_
      show xw J ov (d + 4) 138 (9, [(0, .ref 66), (1, .int x1)], [.int 64, .int x1], h) _
      by_cases c9 : 64 ≤ x1.toInt
      · refine xi_cmt (pc' := 16) kc_138_9 rfl (xc_ge_t (X := x1.toInt) (Y := 64) rfl (by decide) (by omega)) ?_
        refine xi_iconst (pc' := 17) (v := 0) kc_138_16 rfl rfl ?_
        refine xi_ireturn kc_138_17 mr_138 rfl ?_
        show xw J ov (d + 5) 146 (5, [(0, .ref 66), (1, .int x1)], [.int 0], h) _
        refine xi_iff (pc' := 8) kc_146_5 rfl rfl ?_
        refine xi_lconst (pc' := 9) (v := 0) kc_146_8 rfl rfl ?_
        refine xi_lreturn kc_146_9 mr_146 ?_
        exact kk 0 h K
      · refine xi_cmf (pc' := 12) kc_138_9 rfl (xc_ge_f (X := x1.toInt) (Y := 64) rfl (by decide) (by omega)) ?_
        refine xi_iconst (pc' := 13) (v := 1) kc_138_12 rfl rfl ?_
        refine xi_goto (pc' := 17) kc_138_13 rfl ?_
        refine xi_ireturn kc_138_17 mr_138 rfl ?_
        show xw J ov (d + 5) 146 (5, [(0, .ref 66), (1, .int x1)], [.int 1], h) _
        refine xi_ift (pc' := 10) kc_146_5 rfl rfl ?_
        refine xi_aload_n (pc' := 11) (x := 66) kc_146_10 rfl rfl ?_
        refine xi_getfield (pc' := 14) (v := .long wl1) kc_146_11 rfl rfl rfl A3 rfl ?_
        refine xi_iload_n (pc' := 15) (x := x1) kc_146_14 rfl rfl ?_
        refine xcps2 (α := Int64) ((wl1 : Int64) >>> ((x1 : Int32).toInt64 &&& 63)) (fun v10 ev10 => ?_)
        refine xi_lshr (pc' := 16) (v := v10) kc_146_15 rfl ev10 ?_
        refine xi_lconst (pc' := 17) (v := 1) kc_146_16 rfl rfl ?_
        refine xcps2 (α := Int64) ((v10 : Int64) &&& 1) (fun v11 ev11 => ?_)
        refine xi_land (pc' := 18) (v := v11) kc_146_17 rfl ev11 ?_
        refine xi_lconst (pc' := 19) (v := 0) kc_146_18 rfl rfl ?_
        refine xcps2 (α := Int32) (lg_cmp v11 0) (fun v12 ev12 => ?_)
        have rv12 := xc_rng v12
        refine xi_lcmp (pc' := 20) (v := v12) kc_146_19 rfl ev12 ?_
        by_cases c13 : v12.toInt = 0
        · refine xi_ift (pc' := 30) kc_146_20 rfl (xc_eq_t (X := v12.toInt) (Y := 0) rfl (by decide) (by omega)) ?_
          refine xi_aload_n (pc' := 31) (x := 66) kc_146_30 rfl rfl ?_
          refine xi_getfield (pc' := 34) (v := .ref 67) kc_146_31 rfl rfl rfl A3 rfl ?_
          refine xi_iload_n (pc' := 35) (x := x1) kc_146_34 rfl rfl ?_
          refine xi_aload_n (pc' := 36) (x := 66) kc_146_35 rfl rfl ?_
          refine xi_getfield (pc' := 39) (v := .ref 1) kc_146_36 rfl rfl rfl A3 rfl ?_
          refine xi_virtual (mj := 142) (as := []) (st1 := [.int x1, .ref 67]) (lv0 := [(0, .ref 1)]) kc_146_39 rfl rfl rfl rfl rfl A7 (Nat.le_of_ble_eq_true rfl) (hJ _ _ _ _ (by decide)) (xm_le ml_142 rfl) rfl ?_
          refine mt_142_0 hJ hov1 hov2 (d := d + 2)  K.1 (fun r14 hh15 K16 => ?_)
          have br14 := xc_rng r14
          have K17 := xk_tr K K16 rfl
          refine xp_66 K17.1 (fun u19 wl18 bu19 A20 => ?_)
          have e21 : u2 = u19 := xk_eqi (q := 8) K16 rfl A3 A20 rfl rfl
          subst e21
          show xw J ov (d + 5) 146 (42, [(0, .ref 66), (1, .int x1)], [.int r14, .int x1, .ref 67], hh15) _
          refine xp_67 K17.1 (fun u22 u23 bu22 bu23 A24 => ?_)
          refine xi_virtual (mj := 143) (as := [.int x1, .int r14]) (st1 := []) (lv0 := [(0, .ref 67), (1, .int x1), (2, .int r14)]) kc_146_42 rfl rfl rfl rfl rfl A24 (Nat.le_of_ble_eq_true rfl) (hJ _ _ _ _ (by decide)) (xm_le ml_143 rfl) rfl ?_
          refine mt_143_0 hJ hov1 hov2 (d := d + 3) (x1 := x1) (x2 := r14) K17.1 (by first | omega | decide) (fun hh26 K27 => ?_)
          have K28 := xk_tr K17 K27 rfl
          refine xp_66 K28.1 (fun u30 wl29 bu30 A31 => ?_)
          have e32 : u2 = u30 := xk_eqi (q := 8) K27 rfl A20 A31 rfl rfl
          subst e32
          show xw J ov (d + 5) 146 (45, [(0, .ref 66), (1, .int x1)], [], hh26) _
          refine xi_lconst (pc' := 46) (v := 0) kc_146_45 rfl rfl ?_
          refine xi_lstore_n (pc' := 47) (lv' := [(2, .long 0), (0, .ref 66), (1, .int x1)]) kc_146_46 rfl rfl (xm_lt ml_146 rfl) ?_
          refine xi_iconst (pc' := 48) (v := 0) kc_146_47 rfl rfl ?_
          refine xi_istore (pc' := 50) (lv' := [(4, .int 0), (2, .long 0), (0, .ref 66), (1, .int x1)]) kc_146_48 rfl rfl (xm_lt ml_146 rfl) ?_
          refine xi_iconst (pc' := 51) (v := 0) kc_146_50 rfl rfl ?_
          refine xi_istore (pc' := 53) (lv' := [(5, .int 0), (4, .int 0), (2, .long 0), (0, .ref 66), (1, .int x1)]) kc_146_51 rfl rfl (xm_lt ml_146 rfl) ?_
          have zc0 : (0 : Int32).toInt = 0 := by decide
          refine xw_lv (b := [(0, .ref 66), (1, .int x1), (2, .long 0), (4, .int 0), (5, .int 0)]) (lvS_cons (lvS_cons (lvS_cons (lvS_cons (lvS_cons (lvS_nil (show ([5, 4, 2, 0, 1] : List Nat).Nodup by decide)) rfl) rfl) rfl) rfl) rfl) ?_
          exact (lp_146_0 hJ hov1 hov2 (d := d) (hb := hh26) (fun r9 h9 K9 => kk r9 h9 (xk_tr K28 K9 rfl)) 36722).1 x1 0 0 0 hh26 (by omega) (by omega) (by omega) (xk_re K28.1) (by omega)
        · have zv11c13 : v11 ≠ 0 := xj_lc ev12 (by omega)
          refine xi_iff (pc' := 23) kc_146_20 rfl (xc_eq_f (X := v12.toInt) (Y := 0) rfl (by decide) (by omega)) ?_
          refine xi_aload_n (pc' := 24) (x := 66) kc_146_23 rfl rfl ?_
          refine xi_getfield (pc' := 27) (v := .ref 74) kc_146_24 rfl rfl rfl A3 rfl ?_
          refine xi_iload_n (pc' := 28) (x := x1) kc_146_27 rfl rfl ?_
          obtain ⟨y33, A33, hy33⟩ := xk_larr K.1 xD_74
          refine xcps2 (α := Int64) (y33.getD (Int32.toNatClampNeg x1) 0) (fun v34 ev34 => ?_)
          refine xi_laload (pc' := 29) (v := v34) kc_146_28 rfl A33 rfl (xi_in (by omega) (by rw [hy33]; omega)) ev34 ?_
          refine xi_lreturn kc_146_29 mr_146 ?_
          exact kk v34 h K
    · refine xi_cmf (pc' := 9) kc_140_6 rfl (xc_ge_f (X := u5.toInt) (Y := 6) rfl (by decide) (by omega)) ?_
      refine xi_aload_n (pc' := 10) (x := 1) kc_140_9 rfl rfl ?_
      refine xi_getfield (pc' := 13) (v := .int u5) kc_140_10 rfl rfl rfl A7 rfl ?_
      refine xi_goto (pc' := 18) kc_140_13 rfl ?_
      refine xi_ireturn kc_140_18 mr_140 rfl ?_
      show xw J ov (d + 3) 139 (8, [(0, .ref 66)], [.int u5, .int 1], h) _
      refine xcps2 (α := Int32) ((1 : Int32) <<< (u5 &&& 31)) (fun v35 ev35 => ?_)
      have rv35 := xc_rng v35
      have bv35 : 1 ≤ v35.toInt ∧ v35.toInt ≤ 64 := by rw [← ev35]; exact xj_shl6 (by omega) (by omega)
      refine xi_ishl (pc' := 9) (v := v35) kc_139_8 rfl ev35 ?_
      refine xi_ireturn kc_139_9 mr_139 rfl ?_
      show xw J ov (d + 4) 138 (9, [(0, .ref 66), (1, .int x1)], [.int v35, .int x1], h) _
      by_cases c36 : v35.toInt ≤ x1.toInt
      · refine xi_cmt (pc' := 16) kc_138_9 rfl (xc_ge_t (X := x1.toInt) (Y := v35.toInt) rfl rfl (by omega)) ?_
        refine xi_iconst (pc' := 17) (v := 0) kc_138_16 rfl rfl ?_
        refine xi_ireturn kc_138_17 mr_138 rfl ?_
        show xw J ov (d + 5) 146 (5, [(0, .ref 66), (1, .int x1)], [.int 0], h) _
        refine xi_iff (pc' := 8) kc_146_5 rfl rfl ?_
        refine xi_lconst (pc' := 9) (v := 0) kc_146_8 rfl rfl ?_
        refine xi_lreturn kc_146_9 mr_146 ?_
        exact kk 0 h K
      · refine xi_cmf (pc' := 12) kc_138_9 rfl (xc_ge_f (X := x1.toInt) (Y := v35.toInt) rfl rfl (by omega)) ?_
        refine xi_iconst (pc' := 13) (v := 1) kc_138_12 rfl rfl ?_
        refine xi_goto (pc' := 17) kc_138_13 rfl ?_
        refine xi_ireturn kc_138_17 mr_138 rfl ?_
        show xw J ov (d + 5) 146 (5, [(0, .ref 66), (1, .int x1)], [.int 1], h) _
        refine xi_ift (pc' := 10) kc_146_5 rfl rfl ?_
        refine xi_aload_n (pc' := 11) (x := 66) kc_146_10 rfl rfl ?_
        refine xi_getfield (pc' := 14) (v := .long wl1) kc_146_11 rfl rfl rfl A3 rfl ?_
        refine xi_iload_n (pc' := 15) (x := x1) kc_146_14 rfl rfl ?_
        refine xcps2 (α := Int64) ((wl1 : Int64) >>> ((x1 : Int32).toInt64 &&& 63)) (fun v37 ev37 => ?_)
        refine xi_lshr (pc' := 16) (v := v37) kc_146_15 rfl ev37 ?_
        refine xi_lconst (pc' := 17) (v := 1) kc_146_16 rfl rfl ?_
        refine xcps2 (α := Int64) ((v37 : Int64) &&& 1) (fun v38 ev38 => ?_)
        refine xi_land (pc' := 18) (v := v38) kc_146_17 rfl ev38 ?_
        refine xi_lconst (pc' := 19) (v := 0) kc_146_18 rfl rfl ?_
        refine xcps2 (α := Int32) (lg_cmp v38 0) (fun v39 ev39 => ?_)
        have rv39 := xc_rng v39
        refine xi_lcmp (pc' := 20) (v := v39) kc_146_19 rfl ev39 ?_
        by_cases c40 : v39.toInt = 0
        · refine xi_ift (pc' := 30) kc_146_20 rfl (xc_eq_t (X := v39.toInt) (Y := 0) rfl (by decide) (by omega)) ?_
          refine xi_aload_n (pc' := 31) (x := 66) kc_146_30 rfl rfl ?_
          refine xi_getfield (pc' := 34) (v := .ref 67) kc_146_31 rfl rfl rfl A3 rfl ?_
          refine xi_iload_n (pc' := 35) (x := x1) kc_146_34 rfl rfl ?_
          refine xi_aload_n (pc' := 36) (x := 66) kc_146_35 rfl rfl ?_
          refine xi_getfield (pc' := 39) (v := .ref 1) kc_146_36 rfl rfl rfl A3 rfl ?_
          refine xi_virtual (mj := 142) (as := []) (st1 := [.int x1, .ref 67]) (lv0 := [(0, .ref 1)]) kc_146_39 rfl rfl rfl rfl rfl A7 (Nat.le_of_ble_eq_true rfl) (hJ _ _ _ _ (by decide)) (xm_le ml_142 rfl) rfl ?_
          refine mt_142_0 hJ hov1 hov2 (d := d + 2)  K.1 (fun r41 hh42 K43 => ?_)
          have br41 := xc_rng r41
          have K44 := xk_tr K K43 rfl
          refine xp_66 K44.1 (fun u46 wl45 bu46 A47 => ?_)
          have e48 : u2 = u46 := xk_eqi (q := 8) K43 rfl A3 A47 rfl rfl
          subst e48
          show xw J ov (d + 5) 146 (42, [(0, .ref 66), (1, .int x1)], [.int r41, .int x1, .ref 67], hh42) _
          refine xp_67 K44.1 (fun u49 u50 bu49 bu50 A51 => ?_)
          refine xi_virtual (mj := 143) (as := [.int x1, .int r41]) (st1 := []) (lv0 := [(0, .ref 67), (1, .int x1), (2, .int r41)]) kc_146_42 rfl rfl rfl rfl rfl A51 (Nat.le_of_ble_eq_true rfl) (hJ _ _ _ _ (by decide)) (xm_le ml_143 rfl) rfl ?_
          refine mt_143_0 hJ hov1 hov2 (d := d + 3) (x1 := x1) (x2 := r41) K44.1 (by first | omega | decide) (fun hh53 K54 => ?_)
          have K55 := xk_tr K44 K54 rfl
          refine xp_66 K55.1 (fun u57 wl56 bu57 A58 => ?_)
          have e59 : u2 = u57 := xk_eqi (q := 8) K54 rfl A47 A58 rfl rfl
          subst e59
          show xw J ov (d + 5) 146 (45, [(0, .ref 66), (1, .int x1)], [], hh53) _
          refine xi_lconst (pc' := 46) (v := 0) kc_146_45 rfl rfl ?_
          refine xi_lstore_n (pc' := 47) (lv' := [(2, .long 0), (0, .ref 66), (1, .int x1)]) kc_146_46 rfl rfl (xm_lt ml_146 rfl) ?_
          refine xi_iconst (pc' := 48) (v := 0) kc_146_47 rfl rfl ?_
          refine xi_istore (pc' := 50) (lv' := [(4, .int 0), (2, .long 0), (0, .ref 66), (1, .int x1)]) kc_146_48 rfl rfl (xm_lt ml_146 rfl) ?_
          refine xi_iconst (pc' := 51) (v := 0) kc_146_50 rfl rfl ?_
          refine xi_istore (pc' := 53) (lv' := [(5, .int 0), (4, .int 0), (2, .long 0), (0, .ref 66), (1, .int x1)]) kc_146_51 rfl rfl (xm_lt ml_146 rfl) ?_
          have zc0 : (0 : Int32).toInt = 0 := by decide
          refine xw_lv (b := [(0, .ref 66), (1, .int x1), (2, .long 0), (4, .int 0), (5, .int 0)]) (lvS_cons (lvS_cons (lvS_cons (lvS_cons (lvS_cons (lvS_nil (show ([5, 4, 2, 0, 1] : List Nat).Nodup by decide)) rfl) rfl) rfl) rfl) rfl) ?_
          exact (lp_146_0 hJ hov1 hov2 (d := d) (hb := hh53) (fun r9 h9 K9 => kk r9 h9 (xk_tr K55 K9 rfl)) 36722).1 x1 0 0 0 hh53 (by omega) (by omega) (by omega) (xk_re K55.1) (by omega)
        · have zv38c40 : v38 ≠ 0 := xj_lc ev39 (by omega)
          refine xi_iff (pc' := 23) kc_146_20 rfl (xc_eq_f (X := v39.toInt) (Y := 0) rfl (by decide) (by omega)) ?_
          refine xi_aload_n (pc' := 24) (x := 66) kc_146_23 rfl rfl ?_
          refine xi_getfield (pc' := 27) (v := .ref 74) kc_146_24 rfl rfl rfl A3 rfl ?_
          refine xi_iload_n (pc' := 28) (x := x1) kc_146_27 rfl rfl ?_
          obtain ⟨y60, A60, hy60⟩ := xk_larr K.1 xD_74
          refine xcps2 (α := Int64) (y60.getD (Int32.toNatClampNeg x1) 0) (fun v61 ev61 => ?_)
          refine xi_laload (pc' := 29) (v := v61) kc_146_28 rfl A60 rfl (xi_in (by omega) (by rw [hy60]; omega)) ev61 ?_
          refine xi_lreturn kc_146_29 mr_146 ?_
          exact kk v61 h K
set_option maxHeartbeats 4000000 in
theorem mt_4_0 {J : xe_J} {ov : List (List Int32)} (hJ : ∀ d mj as h, mj ≠ xe_loff → J d mj as h = none) (hov1 : ov[1]? = some [10, 0, 0, 0, 0, 0]) (hov2 : ov[2]? = some [99, 30, 50, 50, 1, 99999]) {d : Nat} {Q : Option Value → xe_H → Prop} {h : xe_H} {x0 : Int32} (T : xt h) (kk : (∀ (r : Int32) (h' : xe_H), xk [(0, 9), (115, 1), (83, 0), (29, 0), (31, 0), (33, 0), (35, 0), (37, 0), (39, 0), (41, 0), (43, 0), (45, 0), (47, 0), (49, 0), (51, 0), (125, 0), (66, 8), (115, 18), (71, 0), (132, 0)] h h' → Q (some (.int r)) h')) : xw J ov (d + 1) 4 (0, [(0, .int x0)], [], h) Q := by
  have K : xk [(0, 9), (115, 1), (83, 0), (29, 0), (31, 0), (33, 0), (35, 0), (37, 0), (39, 0), (41, 0), (43, 0), (45, 0), (47, 0), (49, 0), (51, 0), (125, 0), (66, 8), (115, 18), (71, 0), (132, 0)] h h := xk_re T
  have rx0 := xc_rng x0
  refine xi_iload_n (pc' := 1) (x := x0) kc_4_0 rfl rfl ?_
  refine xi_iload_n (pc' := 2) (x := x0) kc_4_1 rfl rfl ?_
  refine xi_iconst (pc' := 3) (v := 1) kc_4_2 rfl rfl ?_
  refine xcps2 (α := Int32) (((x0 : Int32).toUInt32 >>> ((1 : Int32).toUInt32 &&& Int32.toUInt32 31)).toInt32) (fun v1 ev1 => ?_)
  have rv1 := xc_rng v1
  refine xi_iushr (pc' := 4) (v := v1) kc_4_3 rfl ev1 ?_
  refine xi_ldc_w (pc' := 7) (v := 1431655765) kc_4_4 rfl rfl ?_
  refine xcps2 (α := Int32) ((v1 : Int32) &&& 1431655765) (fun v2 ev2 => ?_)
  have rv2 := xc_rng v2
  refine xi_iand (pc' := 8) (v := v2) kc_4_7 rfl ev2 ?_
  refine xcps2 (α := Int32) ((x0 : Int32) - v2) (fun v3 ev3 => ?_)
  have rv3 := xc_rng v3
  refine xi_isub (pc' := 9) (v := v3) kc_4_8 rfl ev3 ?_
  refine xi_istore_n (pc' := 10) (lv' := [(0, .int v3)]) kc_4_9 rfl rfl (xm_lt ml_4 rfl) ?_
  refine xi_iload_n (pc' := 11) (x := v3) kc_4_10 rfl rfl ?_
  refine xi_ldc_w (pc' := 14) (v := 858993459) kc_4_11 rfl rfl ?_
  refine xcps2 (α := Int32) ((v3 : Int32) &&& 858993459) (fun v4 ev4 => ?_)
  have rv4 := xc_rng v4
  refine xi_iand (pc' := 15) (v := v4) kc_4_14 rfl ev4 ?_
  refine xi_iload_n (pc' := 16) (x := v3) kc_4_15 rfl rfl ?_
  refine xi_iconst (pc' := 17) (v := 2) kc_4_16 rfl rfl ?_
  refine xcps2 (α := Int32) (((v3 : Int32).toUInt32 >>> ((2 : Int32).toUInt32 &&& Int32.toUInt32 31)).toInt32) (fun v5 ev5 => ?_)
  have rv5 := xc_rng v5
  refine xi_iushr (pc' := 18) (v := v5) kc_4_17 rfl ev5 ?_
  refine xi_ldc_w (pc' := 21) (v := 858993459) kc_4_18 rfl rfl ?_
  refine xcps2 (α := Int32) ((v5 : Int32) &&& 858993459) (fun v6 ev6 => ?_)
  have rv6 := xc_rng v6
  refine xi_iand (pc' := 22) (v := v6) kc_4_21 rfl ev6 ?_
  refine xcps2 (α := Int32) ((v4 : Int32) + v6) (fun v7 ev7 => ?_)
  have rv7 := xc_rng v7
  refine xi_iadd (pc' := 23) (v := v7) kc_4_22 rfl ev7 ?_
  refine xi_istore_n (pc' := 24) (lv' := [(0, .int v7)]) kc_4_23 rfl rfl (xm_lt ml_4 rfl) ?_
  refine xi_iload_n (pc' := 25) (x := v7) kc_4_24 rfl rfl ?_
  refine xi_iload_n (pc' := 26) (x := v7) kc_4_25 rfl rfl ?_
  refine xi_iconst (pc' := 27) (v := 4) kc_4_26 rfl rfl ?_
  refine xcps2 (α := Int32) (((v7 : Int32).toUInt32 >>> ((4 : Int32).toUInt32 &&& Int32.toUInt32 31)).toInt32) (fun v8 ev8 => ?_)
  have rv8 := xc_rng v8
  refine xi_iushr (pc' := 28) (v := v8) kc_4_27 rfl ev8 ?_
  refine xcps2 (α := Int32) ((v7 : Int32) + v8) (fun v9 ev9 => ?_)
  have rv9 := xc_rng v9
  refine xi_iadd (pc' := 29) (v := v9) kc_4_28 rfl ev9 ?_
  refine xi_ldc_w (pc' := 32) (v := 252645135) kc_4_29 rfl rfl ?_
  refine xcps2 (α := Int32) ((v9 : Int32) &&& 252645135) (fun v10 ev10 => ?_)
  have rv10 := xc_rng v10
  refine xi_iand (pc' := 33) (v := v10) kc_4_32 rfl ev10 ?_
  refine xi_istore_n (pc' := 34) (lv' := [(0, .int v10)]) kc_4_33 rfl rfl (xm_lt ml_4 rfl) ?_
  refine xi_iload_n (pc' := 35) (x := v10) kc_4_34 rfl rfl ?_
  refine xi_iload_n (pc' := 36) (x := v10) kc_4_35 rfl rfl ?_
  refine xi_bipush (pc' := 38) (v := 8) kc_4_36 rfl rfl ?_
  refine xcps2 (α := Int32) (((v10 : Int32).toUInt32 >>> ((8 : Int32).toUInt32 &&& Int32.toUInt32 31)).toInt32) (fun v11 ev11 => ?_)
  have rv11 := xc_rng v11
  refine xi_iushr (pc' := 39) (v := v11) kc_4_38 rfl ev11 ?_
  refine xcps2 (α := Int32) ((v10 : Int32) + v11) (fun v12 ev12 => ?_)
  have rv12 := xc_rng v12
  refine xi_iadd (pc' := 40) (v := v12) kc_4_39 rfl ev12 ?_
  refine xi_istore_n (pc' := 41) (lv' := [(0, .int v12)]) kc_4_40 rfl rfl (xm_lt ml_4 rfl) ?_
  refine xi_iload_n (pc' := 42) (x := v12) kc_4_41 rfl rfl ?_
  refine xi_iload_n (pc' := 43) (x := v12) kc_4_42 rfl rfl ?_
  refine xi_bipush (pc' := 45) (v := 16) kc_4_43 rfl rfl ?_
  refine xcps2 (α := Int32) (((v12 : Int32).toUInt32 >>> ((16 : Int32).toUInt32 &&& Int32.toUInt32 31)).toInt32) (fun v13 ev13 => ?_)
  have rv13 := xc_rng v13
  refine xi_iushr (pc' := 46) (v := v13) kc_4_45 rfl ev13 ?_
  refine xcps2 (α := Int32) ((v12 : Int32) + v13) (fun v14 ev14 => ?_)
  have rv14 := xc_rng v14
  refine xi_iadd (pc' := 47) (v := v14) kc_4_46 rfl ev14 ?_
  refine xi_istore_n (pc' := 48) (lv' := [(0, .int v14)]) kc_4_47 rfl rfl (xm_lt ml_4 rfl) ?_
  refine xi_iload_n (pc' := 49) (x := v14) kc_4_48 rfl rfl ?_
  refine xi_bipush (pc' := 51) (v := 63) kc_4_49 rfl rfl ?_
  refine xcps2 (α := Int32) ((v14 : Int32) &&& 63) (fun v15 ev15 => ?_)
  have rv15 := xc_rng v15
  refine xi_iand (pc' := 52) (v := v15) kc_4_51 rfl ev15 ?_
  refine xi_ireturn kc_4_52 mr_4 rfl ?_
  exact kk v15 h K
set_option maxHeartbeats 4000000 in
theorem lp_145_0 {J : xe_J} {ov : List (List Int32)} (hJ : ∀ d mj as h, mj ≠ xe_loff → J d mj as h = none) (hov1 : ov[1]? = some [10, 0, 0, 0, 0, 0]) (hov2 : ov[2]? = some [99, 30, 50, 50, 1, 99999]) {d : Nat} {Q : Option Value → xe_H → Prop} {hb : xe_H} (kk : (∀ (r : Int32) (h' : xe_H), (0 ≤ r.toInt ∧ r.toInt ≤ 63) → xk [(0, 9), (115, 1), (83, 0), (29, 0), (31, 0), (33, 0), (35, 0), (37, 0), (39, 0), (41, 0), (43, 0), (45, 0), (47, 0), (49, 0), (51, 0), (125, 0), (66, 8), (115, 18), (71, 0), (132, 0)] hb h' → Q (some (.int r)) h')) : ∀ m : Nat, (∀ (x1 : Int32) (x2 : Int32) (h : xe_H), (0 ≤ x1.toInt ∧ x1.toInt ≤ 63) → (1 ≤ x2.toInt ∧ x2.toInt ≤ 64) → xk [(0, 9), (115, 1), (83, 0), (29, 0), (31, 0), (33, 0), (35, 0), (37, 0), (39, 0), (41, 0), (43, 0), (45, 0), (47, 0), (49, 0), (51, 0), (125, 0), (66, 8), (115, 18), (71, 0), (132, 0)] hb h → (-1) * x2.toInt + 64 < (m : Int) → xw J ov (d + 6) 145 (4, [(0, .ref 66), (1, .int x1), (2, .int x2)], [], h) Q) := by
  intro m
  induction m with
  | zero =>
    intro x1 x2 h b1 b2 K hm; exfalso; omega
  | succ m ih =>
    have i0 := ih
    intro x1 x2 h b1 b2 K hm
    refine xi_iload_n (pc' := 5) (x := x2) kc_145_4 rfl rfl ?_
    refine xi_aload_n (pc' := 6) (x := 66) kc_145_5 rfl rfl ?_
    refine xp_66 K.1 (fun u2 wl1 bu2 A3 => ?_)
    refine xi_virtual (mj := 139) (as := []) (st1 := [.int x2]) (lv0 := [(0, .ref 66)]) kc_145_6 rfl rfl rfl rfl rfl A3 (Nat.le_of_ble_eq_true rfl) (hJ _ _ _ _ (by decide)) (xm_le ml_139 rfl) rfl ?_
    refine xi_iconst (pc' := 1) (v := 1) kc_139_0 rfl rfl ?_
    refine xi_aload_n (pc' := 2) (x := 66) kc_139_1 rfl rfl ?_
    refine xi_getfield (pc' := 5) (v := .ref 1) kc_139_2 rfl rfl rfl A3 rfl ?_
    refine xp_1 K.1 (fun u4 u5 bu4 bu5 A6 => ?_)
    refine xi_virtual (mj := 140) (as := []) (st1 := [.int 1]) (lv0 := [(0, .ref 1)]) kc_139_5 rfl rfl rfl rfl rfl A6 (Nat.le_of_ble_eq_true rfl) (hJ _ _ _ _ (by decide)) (xm_le ml_140 rfl) rfl ?_
    refine xi_aload_n (pc' := 1) (x := 1) kc_140_0 rfl rfl ?_
    refine xi_getfield (pc' := 4) (v := .int u4) kc_140_1 rfl rfl rfl A6 rfl ?_
    refine xi_bipush (pc' := 6) (v := 6) kc_140_4 rfl rfl ?_
    by_cases c7 : 6 ≤ u4.toInt
    · refine xi_cmt (pc' := 16) kc_140_6 rfl (xc_ge_t (X := u4.toInt) (Y := 6) rfl (by decide) (by omega)) ?_
      refine xi_bipush (pc' := 18) (v := 6) kc_140_16 rfl rfl ?_
      refine xi_ireturn kc_140_18 mr_140 rfl ?_
      show xw J ov (d + 5) 139 (8, [(0, .ref 66)], [.int 6, .int 1], h) _
      refine xi_ishl (pc' := 9) (v := 64) kc_139_8 rfl rfl ?_
      refine xi_ireturn kc_139_9 mr_139 rfl ?_
      show xw J ov (d + 6) 145 (9, [(0, .ref 66), (1, .int x1), (2, .int x2)], [.int 64, .int x2], h) _
      by_cases c8 : 64 ≤ x2.toInt
      · refine xi_cmt (pc' := 55) kc_145_9 rfl (xc_ge_t (X := x2.toInt) (Y := 64) rfl (by decide) (by omega)) ?_
        refine xi_iload_n (pc' := 56) (x := x1) kc_145_55 rfl rfl ?_
        refine xi_ireturn kc_145_56 mr_145 rfl ?_
        exact kk x1 h (by omega) K
      · refine xi_cmf (pc' := 12) kc_145_9 rfl (xc_ge_f (X := x2.toInt) (Y := 64) rfl (by decide) (by omega)) ?_
        refine xi_aload_n (pc' := 13) (x := 66) kc_145_12 rfl rfl ?_
        refine xi_iload_n (pc' := 14) (x := x1) kc_145_13 rfl rfl ?_
        refine xi_virtual (mj := 146) (as := [.int x1]) (st1 := []) (lv0 := [(0, .ref 66), (1, .int x1)]) kc_145_14 rfl rfl rfl rfl rfl A3 (Nat.le_of_ble_eq_true rfl) (hJ _ _ _ _ (by decide)) (xm_le ml_146 rfl) rfl ?_
        refine mt_146_0 hJ hov1 hov2 (d := d) (x1 := x1) K.1 (fun r9 hh10 K11 => ?_)
        have K12 := xk_tr K K11 rfl
        refine xp_66 K12.1 (fun u14 wl13 bu14 A15 => ?_)
        have e16 : u2 = u14 := xk_eqi (q := 8) K11 rfl A3 A15 rfl rfl
        subst e16
        show xw J ov (d + 6) 145 (17, [(0, .ref 66), (1, .int x1), (2, .int x2)], [.long r9], hh10) _
        refine xi_aload_n (pc' := 18) (x := 66) kc_145_17 rfl rfl ?_
        refine xi_iload_n (pc' := 19) (x := x2) kc_145_18 rfl rfl ?_
        refine xi_virtual (mj := 146) (as := [.int x2]) (st1 := [.long r9]) (lv0 := [(0, .ref 66), (1, .int x2)]) kc_145_19 rfl rfl rfl rfl rfl A15 (Nat.le_of_ble_eq_true rfl) (hJ _ _ _ _ (by decide)) (xm_le ml_146 rfl) rfl ?_
        refine mt_146_0 hJ hov1 hov2 (d := d) (x1 := x2) K12.1 (fun r17 hh18 K19 => ?_)
        have K20 := xk_tr K12 K19 rfl
        refine xp_66 K20.1 (fun u22 wl21 bu22 A23 => ?_)
        have e24 : u2 = u22 := xk_eqi (q := 8) K19 rfl A15 A23 rfl rfl
        subst e24
        show xw J ov (d + 6) 145 (22, [(0, .ref 66), (1, .int x1), (2, .int x2)], [.long r17, .long r9], hh18) _
        refine xcps2 (α := Int64) ((r9 : Int64) - r17) (fun v25 ev25 => ?_)
        refine xi_lsub (pc' := 23) (v := v25) kc_145_22 rfl ev25 ?_
        refine xi_lstore_n (pc' := 24) (lv' := [(3, .long v25), (0, .ref 66), (1, .int x1), (2, .int x2)]) kc_145_23 rfl rfl (xm_lt ml_145 rfl) ?_
        refine xi_lload_n (pc' := 25) (x := v25) kc_145_24 rfl rfl ?_
        refine xi_lconst (pc' := 26) (v := 0) kc_145_25 rfl rfl ?_
        refine xcps2 (α := Int32) (lg_cmp v25 0) (fun v26 ev26 => ?_)
        have rv26 := xc_rng v26
        refine xi_lcmp (pc' := 27) (v := v26) kc_145_26 rfl ev26 ?_
        by_cases c27 : 0 < v26.toInt
        · refine xi_ift (pc' := 47) kc_145_27 rfl (xc_gt_t (X := v26.toInt) (Y := 0) rfl (by decide) (by omega)) ?_
          refine xi_iload_n (pc' := 48) (x := x2) kc_145_47 rfl rfl ?_
          refine xi_istore_n (pc' := 49) (lv' := [(1, .int x2), (3, .long v25), (0, .ref 66), (2, .int x2)]) kc_145_48 rfl rfl (xm_lt ml_145 rfl) ?_
          refine xcps2 (α := Int32) (x2 + 1) (fun v28 ev28 => ?_)
          have zv28 : v28.toInt = (x2.toInt + 1) := by rw [← ev28]; exact (xz_add (X := x2.toInt) (Y := 1) rfl (by decide) (by omega) (by omega)).trans (by omega)
          refine xi_iinc (pc' := 52) (x := x2) (v := v28) (lv' := [(2, .int v28), (1, .int x2), (3, .long v25), (0, .ref 66)]) kc_145_49 rfl rfl ev28 rfl (xm_lt ml_145 rfl) ?_
          refine xi_goto (pc' := 4) kc_145_52 rfl ?_
          refine xw_lv (b := [(0, .ref 66), (1, .int x2), (2, .int v28)]) (lvS_cons (lvS_cons (lvS_cons (lvS_nil (show ([2, 1, 3, 0] : List Nat).Nodup by decide)) rfl) rfl) rfl) ?_
          exact i0 x2 v28 hh18 (by omega) (by omega) K20 (by omega)
        · refine xi_iff (pc' := 30) kc_145_27 rfl (xc_gt_f (X := v26.toInt) (Y := 0) rfl (by decide) (by omega)) ?_
          refine xi_lload_n (pc' := 31) (x := v25) kc_145_30 rfl rfl ?_
          refine xi_lconst (pc' := 32) (v := 0) kc_145_31 rfl rfl ?_
          refine xcps2 (α := Int32) (lg_cmp v25 0) (fun v29 ev29 => ?_)
          have rv29 := xc_rng v29
          refine xi_lcmp (pc' := 33) (v := v29) kc_145_32 rfl ev29 ?_
          by_cases c30 : v29.toInt = 0
          · refine xi_iff (pc' := 36) kc_145_33 rfl (xc_ne_f (X := v29.toInt) (Y := 0) rfl (by decide) (by omega)) ?_
            refine xi_iload_n (pc' := 37) (x := x2) kc_145_36 rfl rfl ?_
            refine xi_static (mj := 4) (as := [.int x2]) (st1 := []) (lv0 := [(0, .int x2)]) kc_145_37 rfl rfl (Nat.le_of_ble_eq_true rfl) rfl rfl (Nat.le_of_ble_eq_true rfl) (hJ _ _ _ _ (by decide)) (xm_le ml_4 rfl) rfl ?_
            refine mt_4_0 hJ hov1 hov2 (d := d + 4) (x0 := x2) K20.1 (fun r31 hh32 K33 => ?_)
            have br31 := xc_rng r31
            have K34 := xk_tr K20 K33 rfl
            refine xp_66 K34.1 (fun u36 wl35 bu36 A37 => ?_)
            have e38 : u2 = u36 := xk_eqi (q := 8) K33 rfl A23 A37 rfl rfl
            subst e38
            show xw J ov (d + 6) 145 (40, [(3, .long v25), (0, .ref 66), (1, .int x1), (2, .int x2)], [.int r31], hh32) _
            refine xi_iload_n (pc' := 41) (x := x1) kc_145_40 rfl rfl ?_
            refine xi_static (mj := 4) (as := [.int x1]) (st1 := [.int r31]) (lv0 := [(0, .int x1)]) kc_145_41 rfl rfl (Nat.le_of_ble_eq_true rfl) rfl rfl (Nat.le_of_ble_eq_true rfl) (hJ _ _ _ _ (by decide)) (xm_le ml_4 rfl) rfl ?_
            refine mt_4_0 hJ hov1 hov2 (d := d + 4) (x0 := x1) K34.1 (fun r39 hh40 K41 => ?_)
            have br39 := xc_rng r39
            have K42 := xk_tr K34 K41 rfl
            refine xp_66 K42.1 (fun u44 wl43 bu44 A45 => ?_)
            have e46 : u2 = u44 := xk_eqi (q := 8) K41 rfl A37 A45 rfl rfl
            subst e46
            show xw J ov (d + 6) 145 (44, [(3, .long v25), (0, .ref 66), (1, .int x1), (2, .int x2)], [.int r39, .int r31], hh40) _
            by_cases c47 : r39.toInt ≤ r31.toInt
            · refine xi_cmt (pc' := 49) kc_145_44 rfl (xc_ge_t (X := r31.toInt) (Y := r39.toInt) rfl rfl (by omega)) ?_
              refine xcps2 (α := Int32) (x2 + 1) (fun v48 ev48 => ?_)
              have zv48 : v48.toInt = (x2.toInt + 1) := by rw [← ev48]; exact (xz_add (X := x2.toInt) (Y := 1) rfl (by decide) (by omega) (by omega)).trans (by omega)
              refine xi_iinc (pc' := 52) (x := x2) (v := v48) (lv' := [(2, .int v48), (3, .long v25), (0, .ref 66), (1, .int x1)]) kc_145_49 rfl rfl ev48 rfl (xm_lt ml_145 rfl) ?_
              refine xi_goto (pc' := 4) kc_145_52 rfl ?_
              refine xw_lv (b := [(0, .ref 66), (1, .int x1), (2, .int v48)]) (lvS_cons (lvS_cons (lvS_cons (lvS_nil (show ([2, 3, 0, 1] : List Nat).Nodup by decide)) rfl) rfl) rfl) ?_
              exact i0 x1 v48 hh40 (by omega) (by omega) K42 (by omega)
            · refine xi_cmf (pc' := 47) kc_145_44 rfl (xc_ge_f (X := r31.toInt) (Y := r39.toInt) rfl rfl (by omega)) ?_
              refine xi_iload_n (pc' := 48) (x := x2) kc_145_47 rfl rfl ?_
              refine xi_istore_n (pc' := 49) (lv' := [(1, .int x2), (3, .long v25), (0, .ref 66), (2, .int x2)]) kc_145_48 rfl rfl (xm_lt ml_145 rfl) ?_
              refine xcps2 (α := Int32) (x2 + 1) (fun v49 ev49 => ?_)
              have zv49 : v49.toInt = (x2.toInt + 1) := by rw [← ev49]; exact (xz_add (X := x2.toInt) (Y := 1) rfl (by decide) (by omega) (by omega)).trans (by omega)
              refine xi_iinc (pc' := 52) (x := x2) (v := v49) (lv' := [(2, .int v49), (1, .int x2), (3, .long v25), (0, .ref 66)]) kc_145_49 rfl rfl ev49 rfl (xm_lt ml_145 rfl) ?_
              refine xi_goto (pc' := 4) kc_145_52 rfl ?_
              refine xw_lv (b := [(0, .ref 66), (1, .int x2), (2, .int v49)]) (lvS_cons (lvS_cons (lvS_cons (lvS_nil (show ([2, 1, 3, 0] : List Nat).Nodup by decide)) rfl) rfl) rfl) ?_
              exact i0 x2 v49 hh40 (by omega) (by omega) K42 (by omega)
          · have zv25c30 : v25 ≠ 0 := xj_lc ev29 (by omega)
            refine xi_ift (pc' := 49) kc_145_33 rfl (xc_ne_t (X := v29.toInt) (Y := 0) rfl (by decide) (by omega)) ?_
            refine xcps2 (α := Int32) (x2 + 1) (fun v50 ev50 => ?_)
            have zv50 : v50.toInt = (x2.toInt + 1) := by rw [← ev50]; exact (xz_add (X := x2.toInt) (Y := 1) rfl (by decide) (by omega) (by omega)).trans (by omega)
            refine xi_iinc (pc' := 52) (x := x2) (v := v50) (lv' := [(2, .int v50), (3, .long v25), (0, .ref 66), (1, .int x1)]) kc_145_49 rfl rfl ev50 rfl (xm_lt ml_145 rfl) ?_
            refine xi_goto (pc' := 4) kc_145_52 rfl ?_
            refine xw_lv (b := [(0, .ref 66), (1, .int x1), (2, .int v50)]) (lvS_cons (lvS_cons (lvS_cons (lvS_nil (show ([2, 3, 0, 1] : List Nat).Nodup by decide)) rfl) rfl) rfl) ?_
            exact i0 x1 v50 hh18 (by omega) (by omega) K20 (by omega)
    · refine xi_cmf (pc' := 9) kc_140_6 rfl (xc_ge_f (X := u4.toInt) (Y := 6) rfl (by decide) (by omega)) ?_
      refine xi_aload_n (pc' := 10) (x := 1) kc_140_9 rfl rfl ?_
      refine xi_getfield (pc' := 13) (v := .int u4) kc_140_10 rfl rfl rfl A6 rfl ?_
      refine xi_goto (pc' := 18) kc_140_13 rfl ?_
      refine xi_ireturn kc_140_18 mr_140 rfl ?_
      show xw J ov (d + 5) 139 (8, [(0, .ref 66)], [.int u4, .int 1], h) _
      refine xcps2 (α := Int32) ((1 : Int32) <<< (u4 &&& 31)) (fun v51 ev51 => ?_)
      have rv51 := xc_rng v51
      have bv51 : 1 ≤ v51.toInt ∧ v51.toInt ≤ 64 := by rw [← ev51]; exact xj_shl6 (by omega) (by omega)
      refine xi_ishl (pc' := 9) (v := v51) kc_139_8 rfl ev51 ?_
      refine xi_ireturn kc_139_9 mr_139 rfl ?_
      show xw J ov (d + 6) 145 (9, [(0, .ref 66), (1, .int x1), (2, .int x2)], [.int v51, .int x2], h) _
      by_cases c52 : v51.toInt ≤ x2.toInt
      · refine xi_cmt (pc' := 55) kc_145_9 rfl (xc_ge_t (X := x2.toInt) (Y := v51.toInt) rfl rfl (by omega)) ?_
        refine xi_iload_n (pc' := 56) (x := x1) kc_145_55 rfl rfl ?_
        refine xi_ireturn kc_145_56 mr_145 rfl ?_
        exact kk x1 h (by omega) K
      · refine xi_cmf (pc' := 12) kc_145_9 rfl (xc_ge_f (X := x2.toInt) (Y := v51.toInt) rfl rfl (by omega)) ?_
        refine xi_aload_n (pc' := 13) (x := 66) kc_145_12 rfl rfl ?_
        refine xi_iload_n (pc' := 14) (x := x1) kc_145_13 rfl rfl ?_
        refine xi_virtual (mj := 146) (as := [.int x1]) (st1 := []) (lv0 := [(0, .ref 66), (1, .int x1)]) kc_145_14 rfl rfl rfl rfl rfl A3 (Nat.le_of_ble_eq_true rfl) (hJ _ _ _ _ (by decide)) (xm_le ml_146 rfl) rfl ?_
        refine mt_146_0 hJ hov1 hov2 (d := d) (x1 := x1) K.1 (fun r53 hh54 K55 => ?_)
        have K56 := xk_tr K K55 rfl
        refine xp_66 K56.1 (fun u58 wl57 bu58 A59 => ?_)
        have e60 : u2 = u58 := xk_eqi (q := 8) K55 rfl A3 A59 rfl rfl
        subst e60
        show xw J ov (d + 6) 145 (17, [(0, .ref 66), (1, .int x1), (2, .int x2)], [.long r53], hh54) _
        refine xi_aload_n (pc' := 18) (x := 66) kc_145_17 rfl rfl ?_
        refine xi_iload_n (pc' := 19) (x := x2) kc_145_18 rfl rfl ?_
        refine xi_virtual (mj := 146) (as := [.int x2]) (st1 := [.long r53]) (lv0 := [(0, .ref 66), (1, .int x2)]) kc_145_19 rfl rfl rfl rfl rfl A59 (Nat.le_of_ble_eq_true rfl) (hJ _ _ _ _ (by decide)) (xm_le ml_146 rfl) rfl ?_
        refine mt_146_0 hJ hov1 hov2 (d := d) (x1 := x2) K56.1 (fun r61 hh62 K63 => ?_)
        have K64 := xk_tr K56 K63 rfl
        refine xp_66 K64.1 (fun u66 wl65 bu66 A67 => ?_)
        have e68 : u2 = u66 := xk_eqi (q := 8) K63 rfl A59 A67 rfl rfl
        subst e68
        show xw J ov (d + 6) 145 (22, [(0, .ref 66), (1, .int x1), (2, .int x2)], [.long r61, .long r53], hh62) _
        refine xcps2 (α := Int64) ((r53 : Int64) - r61) (fun v69 ev69 => ?_)
        refine xi_lsub (pc' := 23) (v := v69) kc_145_22 rfl ev69 ?_
        refine xi_lstore_n (pc' := 24) (lv' := [(3, .long v69), (0, .ref 66), (1, .int x1), (2, .int x2)]) kc_145_23 rfl rfl (xm_lt ml_145 rfl) ?_
        refine xi_lload_n (pc' := 25) (x := v69) kc_145_24 rfl rfl ?_
        refine xi_lconst (pc' := 26) (v := 0) kc_145_25 rfl rfl ?_
        refine xcps2 (α := Int32) (lg_cmp v69 0) (fun v70 ev70 => ?_)
        have rv70 := xc_rng v70
        refine xi_lcmp (pc' := 27) (v := v70) kc_145_26 rfl ev70 ?_
        by_cases c71 : 0 < v70.toInt
        · refine xi_ift (pc' := 47) kc_145_27 rfl (xc_gt_t (X := v70.toInt) (Y := 0) rfl (by decide) (by omega)) ?_
          refine xi_iload_n (pc' := 48) (x := x2) kc_145_47 rfl rfl ?_
          refine xi_istore_n (pc' := 49) (lv' := [(1, .int x2), (3, .long v69), (0, .ref 66), (2, .int x2)]) kc_145_48 rfl rfl (xm_lt ml_145 rfl) ?_
          refine xcps2 (α := Int32) (x2 + 1) (fun v72 ev72 => ?_)
          have zv72 : v72.toInt = (x2.toInt + 1) := by rw [← ev72]; exact (xz_add (X := x2.toInt) (Y := 1) rfl (by decide) (by omega) (by omega)).trans (by omega)
          refine xi_iinc (pc' := 52) (x := x2) (v := v72) (lv' := [(2, .int v72), (1, .int x2), (3, .long v69), (0, .ref 66)]) kc_145_49 rfl rfl ev72 rfl (xm_lt ml_145 rfl) ?_
          refine xi_goto (pc' := 4) kc_145_52 rfl ?_
          refine xw_lv (b := [(0, .ref 66), (1, .int x2), (2, .int v72)]) (lvS_cons (lvS_cons (lvS_cons (lvS_nil (show ([2, 1, 3, 0] : List Nat).Nodup by decide)) rfl) rfl) rfl) ?_
          exact i0 x2 v72 hh62 (by omega) (by omega) K64 (by omega)
        · refine xi_iff (pc' := 30) kc_145_27 rfl (xc_gt_f (X := v70.toInt) (Y := 0) rfl (by decide) (by omega)) ?_
          refine xi_lload_n (pc' := 31) (x := v69) kc_145_30 rfl rfl ?_
          refine xi_lconst (pc' := 32) (v := 0) kc_145_31 rfl rfl ?_
          refine xcps2 (α := Int32) (lg_cmp v69 0) (fun v73 ev73 => ?_)
          have rv73 := xc_rng v73
          refine xi_lcmp (pc' := 33) (v := v73) kc_145_32 rfl ev73 ?_
          by_cases c74 : v73.toInt = 0
          · refine xi_iff (pc' := 36) kc_145_33 rfl (xc_ne_f (X := v73.toInt) (Y := 0) rfl (by decide) (by omega)) ?_
            refine xi_iload_n (pc' := 37) (x := x2) kc_145_36 rfl rfl ?_
            refine xi_static (mj := 4) (as := [.int x2]) (st1 := []) (lv0 := [(0, .int x2)]) kc_145_37 rfl rfl (Nat.le_of_ble_eq_true rfl) rfl rfl (Nat.le_of_ble_eq_true rfl) (hJ _ _ _ _ (by decide)) (xm_le ml_4 rfl) rfl ?_
            refine mt_4_0 hJ hov1 hov2 (d := d + 4) (x0 := x2) K64.1 (fun r75 hh76 K77 => ?_)
            have br75 := xc_rng r75
            have K78 := xk_tr K64 K77 rfl
            refine xp_66 K78.1 (fun u80 wl79 bu80 A81 => ?_)
            have e82 : u2 = u80 := xk_eqi (q := 8) K77 rfl A67 A81 rfl rfl
            subst e82
            show xw J ov (d + 6) 145 (40, [(3, .long v69), (0, .ref 66), (1, .int x1), (2, .int x2)], [.int r75], hh76) _
            refine xi_iload_n (pc' := 41) (x := x1) kc_145_40 rfl rfl ?_
            refine xi_static (mj := 4) (as := [.int x1]) (st1 := [.int r75]) (lv0 := [(0, .int x1)]) kc_145_41 rfl rfl (Nat.le_of_ble_eq_true rfl) rfl rfl (Nat.le_of_ble_eq_true rfl) (hJ _ _ _ _ (by decide)) (xm_le ml_4 rfl) rfl ?_
            refine mt_4_0 hJ hov1 hov2 (d := d + 4) (x0 := x1) K78.1 (fun r83 hh84 K85 => ?_)
            have br83 := xc_rng r83
            have K86 := xk_tr K78 K85 rfl
            refine xp_66 K86.1 (fun u88 wl87 bu88 A89 => ?_)
            have e90 : u2 = u88 := xk_eqi (q := 8) K85 rfl A81 A89 rfl rfl
            subst e90
            show xw J ov (d + 6) 145 (44, [(3, .long v69), (0, .ref 66), (1, .int x1), (2, .int x2)], [.int r83, .int r75], hh84) _
            by_cases c91 : r83.toInt ≤ r75.toInt
            · refine xi_cmt (pc' := 49) kc_145_44 rfl (xc_ge_t (X := r75.toInt) (Y := r83.toInt) rfl rfl (by omega)) ?_
              refine xcps2 (α := Int32) (x2 + 1) (fun v92 ev92 => ?_)
              have zv92 : v92.toInt = (x2.toInt + 1) := by rw [← ev92]; exact (xz_add (X := x2.toInt) (Y := 1) rfl (by decide) (by omega) (by omega)).trans (by omega)
              refine xi_iinc (pc' := 52) (x := x2) (v := v92) (lv' := [(2, .int v92), (3, .long v69), (0, .ref 66), (1, .int x1)]) kc_145_49 rfl rfl ev92 rfl (xm_lt ml_145 rfl) ?_
              refine xi_goto (pc' := 4) kc_145_52 rfl ?_
              refine xw_lv (b := [(0, .ref 66), (1, .int x1), (2, .int v92)]) (lvS_cons (lvS_cons (lvS_cons (lvS_nil (show ([2, 3, 0, 1] : List Nat).Nodup by decide)) rfl) rfl) rfl) ?_
              exact i0 x1 v92 hh84 (by omega) (by omega) K86 (by omega)
            · refine xi_cmf (pc' := 47) kc_145_44 rfl (xc_ge_f (X := r75.toInt) (Y := r83.toInt) rfl rfl (by omega)) ?_
              refine xi_iload_n (pc' := 48) (x := x2) kc_145_47 rfl rfl ?_
              refine xi_istore_n (pc' := 49) (lv' := [(1, .int x2), (3, .long v69), (0, .ref 66), (2, .int x2)]) kc_145_48 rfl rfl (xm_lt ml_145 rfl) ?_
              refine xcps2 (α := Int32) (x2 + 1) (fun v93 ev93 => ?_)
              have zv93 : v93.toInt = (x2.toInt + 1) := by rw [← ev93]; exact (xz_add (X := x2.toInt) (Y := 1) rfl (by decide) (by omega) (by omega)).trans (by omega)
              refine xi_iinc (pc' := 52) (x := x2) (v := v93) (lv' := [(2, .int v93), (1, .int x2), (3, .long v69), (0, .ref 66)]) kc_145_49 rfl rfl ev93 rfl (xm_lt ml_145 rfl) ?_
              refine xi_goto (pc' := 4) kc_145_52 rfl ?_
              refine xw_lv (b := [(0, .ref 66), (1, .int x2), (2, .int v93)]) (lvS_cons (lvS_cons (lvS_cons (lvS_nil (show ([2, 1, 3, 0] : List Nat).Nodup by decide)) rfl) rfl) rfl) ?_
              exact i0 x2 v93 hh84 (by omega) (by omega) K86 (by omega)
          · have zv69c74 : v69 ≠ 0 := xj_lc ev73 (by omega)
            refine xi_ift (pc' := 49) kc_145_33 rfl (xc_ne_t (X := v73.toInt) (Y := 0) rfl (by decide) (by omega)) ?_
            refine xcps2 (α := Int32) (x2 + 1) (fun v94 ev94 => ?_)
            have zv94 : v94.toInt = (x2.toInt + 1) := by rw [← ev94]; exact (xz_add (X := x2.toInt) (Y := 1) rfl (by decide) (by omega) (by omega)).trans (by omega)
            refine xi_iinc (pc' := 52) (x := x2) (v := v94) (lv' := [(2, .int v94), (3, .long v69), (0, .ref 66), (1, .int x1)]) kc_145_49 rfl rfl ev94 rfl (xm_lt ml_145 rfl) ?_
            refine xi_goto (pc' := 4) kc_145_52 rfl ?_
            refine xw_lv (b := [(0, .ref 66), (1, .int x1), (2, .int v94)]) (lvS_cons (lvS_cons (lvS_cons (lvS_nil (show ([2, 3, 0, 1] : List Nat).Nodup by decide)) rfl) rfl) rfl) ?_
            exact i0 x1 v94 hh62 (by omega) (by omega) K64 (by omega)
set_option maxHeartbeats 4000000 in
theorem mt_145_0 {J : xe_J} {ov : List (List Int32)} (hJ : ∀ d mj as h, mj ≠ xe_loff → J d mj as h = none) (hov1 : ov[1]? = some [10, 0, 0, 0, 0, 0]) (hov2 : ov[2]? = some [99, 30, 50, 50, 1, 99999]) {d : Nat} {Q : Option Value → xe_H → Prop} {h : xe_H} (T : xt h) (kk : (∀ (r : Int32) (h' : xe_H), (0 ≤ r.toInt ∧ r.toInt ≤ 63) → xk [(0, 9), (115, 1), (83, 0), (29, 0), (31, 0), (33, 0), (35, 0), (37, 0), (39, 0), (41, 0), (43, 0), (45, 0), (47, 0), (49, 0), (51, 0), (125, 0), (66, 8), (115, 18), (71, 0), (132, 0)] h h' → Q (some (.int r)) h')) : xw J ov (d + 6) 145 (0, [(0, .ref 66)], [], h) Q := by
  have K : xk [(0, 9), (115, 1), (83, 0), (29, 0), (31, 0), (33, 0), (35, 0), (37, 0), (39, 0), (41, 0), (43, 0), (45, 0), (47, 0), (49, 0), (51, 0), (125, 0), (66, 8), (115, 18), (71, 0), (132, 0)] h h := xk_re T
  refine xi_iconst (pc' := 1) (v := 0) kc_145_0 rfl rfl ?_
  refine xi_istore_n (pc' := 2) (lv' := [(1, .int 0), (0, .ref 66)]) kc_145_1 rfl rfl (xm_lt ml_145 rfl) ?_
  refine xi_iconst (pc' := 3) (v := 1) kc_145_2 rfl rfl ?_
  refine xi_istore_n (pc' := 4) (lv' := [(2, .int 1), (1, .int 0), (0, .ref 66)]) kc_145_3 rfl rfl (xm_lt ml_145 rfl) ?_
  have zc0 : (0 : Int32).toInt = 0 := by decide
  have zc1 : (1 : Int32).toInt = 1 := by decide
  refine xw_lv (b := [(0, .ref 66), (1, .int 0), (2, .int 1)]) (lvS_cons (lvS_cons (lvS_cons (lvS_nil (show ([2, 1, 0] : List Nat).Nodup by decide)) rfl) rfl) rfl) ?_
  exact (lp_145_0 hJ hov1 hov2 (d := d) (hb := h) (fun r9 h9 b9 K9 => kk r9 h9 b9 (xk_tr K K9 rfl)) 64) 0 1 h (by omega) (by omega) (xk_re K.1) (by omega)
set_option maxHeartbeats 4000000 in
theorem mt_144_0 {J : xe_J} {ov : List (List Int32)} (hJ : ∀ d mj as h, mj ≠ xe_loff → J d mj as h = none) (hov1 : ov[1]? = some [10, 0, 0, 0, 0, 0]) (hov2 : ov[2]? = some [99, 30, 50, 50, 1, 99999]) {d : Nat} {Q : Option Value → xe_H → Prop} {h : xe_H} (T : xt h) (kk : (∀ (r : Int32) (h' : xe_H), (0 ≤ r.toInt ∧ r.toInt ≤ 63) → xk [(0, 9), (115, 1), (83, 0), (29, 0), (31, 0), (33, 0), (35, 0), (37, 0), (39, 0), (41, 0), (43, 0), (45, 0), (47, 0), (49, 0), (51, 0), (125, 0), (66, 8), (115, 18), (71, 0), (132, 0)] h h' → Q (some (.int r)) h')) : xw J ov (d + 7) 144 (0, [(0, .ref 0)], [], h) Q := by
  have K : xk [(0, 9), (115, 1), (83, 0), (29, 0), (31, 0), (33, 0), (35, 0), (37, 0), (39, 0), (41, 0), (43, 0), (45, 0), (47, 0), (49, 0), (51, 0), (125, 0), (66, 8), (115, 18), (71, 0), (132, 0)] h h := xk_re T
  refine xi_aload_n (pc' := 1) (x := 0) kc_144_0 rfl rfl ?_
  refine xp_0 K.1 (fun u1 u2 bu1 bu2 A3 => ?_)
  refine xi_getfield (pc' := 4) (v := .ref 66) kc_144_1 rfl rfl rfl A3 rfl ?_
  refine xp_66 K.1 (fun u5 wl4 bu5 A6 => ?_)
  refine xi_virtual (mj := 145) (as := []) (st1 := []) (lv0 := [(0, .ref 66)]) kc_144_4 rfl rfl rfl rfl rfl A6 (Nat.le_of_ble_eq_true rfl) (hJ _ _ _ _ (by decide)) (xm_le ml_145 rfl) rfl ?_
  refine mt_145_0 hJ hov1 hov2 (d := d)  K.1 (fun r7 hh8 br7 K9 => ?_)
  have K10 := xk_tr K K9 rfl
  refine xp_0 K10.1 (fun u11 u12 bu11 bu12 A13 => ?_)
  have e14 : u2 = u12 := xk_eqi (q := 9) K9 rfl A3 A13 rfl rfl
  subst e14
  refine xp_66 K10.1 (fun u16 wl15 bu16 A17 => ?_)
  have e18 : u5 = u16 := xk_eqi (q := 8) K9 rfl A6 A17 rfl rfl
  subst e18
  show xw J ov (d + 7) 144 (7, [(0, .ref 0)], [.int r7], hh8) _
  refine xi_ireturn kc_144_7 mr_144 rfl ?_
  exact kk r7 hh8 (by omega) K10
set_option maxHeartbeats 4000000 in
theorem lp_149_0 {J : xe_J} {ov : List (List Int32)} (hJ : ∀ d mj as h, mj ≠ xe_loff → J d mj as h = none) (hov1 : ov[1]? = some [10, 0, 0, 0, 0, 0]) (hov2 : ov[2]? = some [99, 30, 50, 50, 1, 99999]) {d : Nat} {Q : Option Value → xe_H → Prop} {hb : xe_H} (kk : (∀ (r : Int32) (h' : xe_H), xk [(0, 9), (115, 1), (83, 0), (29, 0), (31, 0), (33, 0), (35, 0), (37, 0), (39, 0), (41, 0), (43, 0), (45, 0), (47, 0), (49, 0), (51, 0), (125, 0), (66, 8), (115, 18), (71, 0), (132, 0)] hb h' → Q (some (.int r)) h')) : ∀ m : Nat, (∀ (x1 : Int32) (x2 : Int32) (h : xe_H), (0 ≤ x2.toInt ∧ x2.toInt ≤ 64) → xk [(0, 9), (115, 1), (83, 0), (29, 0), (31, 0), (33, 0), (35, 0), (37, 0), (39, 0), (41, 0), (43, 0), (45, 0), (47, 0), (49, 0), (51, 0), (125, 0), (66, 8), (115, 18), (71, 0), (132, 0)] hb h → (-1) * x2.toInt + 64 < (m : Int) → xw J ov (d + 6) 149 (5, [(0, .ref 66), (1, .int x1), (2, .int x2)], [], h) Q) := by
  intro m
  induction m with
  | zero =>
    intro x1 x2 h b2 K hm; have rx1 := xc_rng x1; exfalso; omega
  | succ m ih =>
    have i0 := ih
    intro x1 x2 h b2 K hm
    have rx1 := xc_rng x1
    refine xi_iload_n (pc' := 6) (x := x2) kc_149_5 rfl rfl ?_
    refine xi_aload_n (pc' := 7) (x := 66) kc_149_6 rfl rfl ?_
    refine xp_66 K.1 (fun u2 wl1 bu2 A3 => ?_)
    refine xi_virtual (mj := 139) (as := []) (st1 := [.int x2]) (lv0 := [(0, .ref 66)]) kc_149_7 rfl rfl rfl rfl rfl A3 (Nat.le_of_ble_eq_true rfl) (hJ _ _ _ _ (by decide)) (xm_le ml_139 rfl) rfl ?_
    refine xi_iconst (pc' := 1) (v := 1) kc_139_0 rfl rfl ?_
    refine xi_aload_n (pc' := 2) (x := 66) kc_139_1 rfl rfl ?_
    refine xi_getfield (pc' := 5) (v := .ref 1) kc_139_2 rfl rfl rfl A3 rfl ?_
    refine xp_1 K.1 (fun u4 u5 bu4 bu5 A6 => ?_)
    refine xi_virtual (mj := 140) (as := []) (st1 := [.int 1]) (lv0 := [(0, .ref 1)]) kc_139_5 rfl rfl rfl rfl rfl A6 (Nat.le_of_ble_eq_true rfl) (hJ _ _ _ _ (by decide)) (xm_le ml_140 rfl) rfl ?_
    refine xi_aload_n (pc' := 1) (x := 1) kc_140_0 rfl rfl ?_
    refine xi_getfield (pc' := 4) (v := .int u4) kc_140_1 rfl rfl rfl A6 rfl ?_
    refine xi_bipush (pc' := 6) (v := 6) kc_140_4 rfl rfl ?_
    by_cases c7 : 6 ≤ u4.toInt
    · refine xi_cmt (pc' := 16) kc_140_6 rfl (xc_ge_t (X := u4.toInt) (Y := 6) rfl (by decide) (by omega)) ?_
      refine xi_bipush (pc' := 18) (v := 6) kc_140_16 rfl rfl ?_
      refine xi_ireturn kc_140_18 mr_140 rfl ?_
      show xw J ov (d + 5) 139 (8, [(0, .ref 66)], [.int 6, .int 1], h) _
      refine xi_ishl (pc' := 9) (v := 64) kc_139_8 rfl rfl ?_
      refine xi_ireturn kc_139_9 mr_139 rfl ?_
      show xw J ov (d + 6) 149 (10, [(0, .ref 66), (1, .int x1), (2, .int x2)], [.int 64, .int x2], h) _
      by_cases c8 : 64 ≤ x2.toInt
      · refine xi_cmt (pc' := 47) kc_149_10 rfl (xc_ge_t (X := x2.toInt) (Y := 64) rfl (by decide) (by omega)) ?_
        refine xi_iload_n (pc' := 48) (x := x1) kc_149_47 rfl rfl ?_
        refine xi_ireturn kc_149_48 mr_149 rfl ?_
        exact kk x1 h K
      · refine xi_cmf (pc' := 13) kc_149_10 rfl (xc_ge_f (X := x2.toInt) (Y := 64) rfl (by decide) (by omega)) ?_
        refine xi_iload_n (pc' := 14) (x := x2) kc_149_13 rfl rfl ?_
        refine xi_static (mj := 4) (as := [.int x2]) (st1 := []) (lv0 := [(0, .int x2)]) kc_149_14 rfl rfl (Nat.le_of_ble_eq_true rfl) rfl rfl (Nat.le_of_ble_eq_true rfl) (hJ _ _ _ _ (by decide)) (xm_le ml_4 rfl) rfl ?_
        refine mt_4_0 hJ hov1 hov2 (d := d + 4) (x0 := x2) K.1 (fun r9 hh10 K11 => ?_)
        have br9 := xc_rng r9
        have K12 := xk_tr K K11 rfl
        refine xp_66 K12.1 (fun u14 wl13 bu14 A15 => ?_)
        have e16 : u2 = u14 := xk_eqi (q := 8) K11 rfl A3 A15 rfl rfl
        subst e16
        show xw J ov (d + 6) 149 (17, [(0, .ref 66), (1, .int x1), (2, .int x2)], [.int r9], hh10) _
        refine xi_istore_n (pc' := 18) (lv' := [(3, .int r9), (0, .ref 66), (1, .int x1), (2, .int x2)]) kc_149_17 rfl rfl (xm_lt ml_149 rfl) ?_
        refine xi_aload_n (pc' := 19) (x := 66) kc_149_18 rfl rfl ?_
        refine xi_iload_n (pc' := 20) (x := x2) kc_149_19 rfl rfl ?_
        refine xi_virtual (mj := 146) (as := [.int x2]) (st1 := []) (lv0 := [(0, .ref 66), (1, .int x2)]) kc_149_20 rfl rfl rfl rfl rfl A15 (Nat.le_of_ble_eq_true rfl) (hJ _ _ _ _ (by decide)) (xm_le ml_146 rfl) rfl ?_
        refine mt_146_0 hJ hov1 hov2 (d := d) (x1 := x2) K12.1 (fun r17 hh18 K19 => ?_)
        have K20 := xk_tr K12 K19 rfl
        refine xp_66 K20.1 (fun u22 wl21 bu22 A23 => ?_)
        have e24 : u2 = u22 := xk_eqi (q := 8) K19 rfl A15 A23 rfl rfl
        subst e24
        show xw J ov (d + 6) 149 (23, [(3, .int r9), (0, .ref 66), (1, .int x1), (2, .int x2)], [.long r17], hh18) _
        refine xi_lconst (pc' := 24) (v := 0) kc_149_23 rfl rfl ?_
        refine xcps2 (α := Int32) (lg_cmp r17 0) (fun v25 ev25 => ?_)
        have rv25 := xc_rng v25
        refine xi_lcmp (pc' := 25) (v := v25) kc_149_24 rfl ev25 ?_
        by_cases c26 : v25.toInt = 0
        · refine xi_iff (pc' := 28) kc_149_25 rfl (xc_ne_f (X := v25.toInt) (Y := 0) rfl (by decide) (by omega)) ?_
          refine xi_iload_n (pc' := 29) (x := x1) kc_149_28 rfl rfl ?_
          refine xi_bipush (pc' := 31) (v := (-9)) kc_149_29 rfl rfl ?_
          by_cases c27 : x1.toInt = (-9)
          · refine xi_cmt (pc' := 39) kc_149_31 rfl (xc_eq_t (X := x1.toInt) (Y := (-9)) rfl (by decide) (by omega)) ?_
            refine xi_iload_n (pc' := 40) (x := r9) kc_149_39 rfl rfl ?_
            refine xi_istore_n (pc' := 41) (lv' := [(1, .int r9), (3, .int r9), (0, .ref 66), (2, .int x2)]) kc_149_40 rfl rfl (xm_lt ml_149 rfl) ?_
            refine xcps2 (α := Int32) (x2 + 1) (fun v28 ev28 => ?_)
            have zv28 : v28.toInt = (x2.toInt + 1) := by rw [← ev28]; exact (xz_add (X := x2.toInt) (Y := 1) rfl (by decide) (by omega) (by omega)).trans (by omega)
            refine xi_iinc (pc' := 44) (x := x2) (v := v28) (lv' := [(2, .int v28), (1, .int r9), (3, .int r9), (0, .ref 66)]) kc_149_41 rfl rfl ev28 rfl (xm_lt ml_149 rfl) ?_
            refine xi_goto (pc' := 5) kc_149_44 rfl ?_
            refine xw_lv (b := [(0, .ref 66), (1, .int r9), (2, .int v28)]) (lvS_cons (lvS_cons (lvS_cons (lvS_nil (show ([2, 1, 3, 0] : List Nat).Nodup by decide)) rfl) rfl) rfl) ?_
            exact i0 r9 v28 hh18 (by omega) K20 (by omega)
          · refine xi_cmf (pc' := 34) kc_149_31 rfl (xc_eq_f (X := x1.toInt) (Y := (-9)) rfl (by decide) (by omega)) ?_
            refine xi_iload_n (pc' := 35) (x := r9) kc_149_34 rfl rfl ?_
            refine xi_iload_n (pc' := 36) (x := x1) kc_149_35 rfl rfl ?_
            by_cases c29 : x1.toInt ≤ r9.toInt
            · refine xi_cmt (pc' := 41) kc_149_36 rfl (xc_ge_t (X := r9.toInt) (Y := x1.toInt) rfl rfl (by omega)) ?_
              refine xcps2 (α := Int32) (x2 + 1) (fun v30 ev30 => ?_)
              have zv30 : v30.toInt = (x2.toInt + 1) := by rw [← ev30]; exact (xz_add (X := x2.toInt) (Y := 1) rfl (by decide) (by omega) (by omega)).trans (by omega)
              refine xi_iinc (pc' := 44) (x := x2) (v := v30) (lv' := [(2, .int v30), (3, .int r9), (0, .ref 66), (1, .int x1)]) kc_149_41 rfl rfl ev30 rfl (xm_lt ml_149 rfl) ?_
              refine xi_goto (pc' := 5) kc_149_44 rfl ?_
              refine xw_lv (b := [(0, .ref 66), (1, .int x1), (2, .int v30)]) (lvS_cons (lvS_cons (lvS_cons (lvS_nil (show ([2, 3, 0, 1] : List Nat).Nodup by decide)) rfl) rfl) rfl) ?_
              exact i0 x1 v30 hh18 (by omega) K20 (by omega)
            · refine xi_cmf (pc' := 39) kc_149_36 rfl (xc_ge_f (X := r9.toInt) (Y := x1.toInt) rfl rfl (by omega)) ?_
              refine xi_iload_n (pc' := 40) (x := r9) kc_149_39 rfl rfl ?_
              refine xi_istore_n (pc' := 41) (lv' := [(1, .int r9), (3, .int r9), (0, .ref 66), (2, .int x2)]) kc_149_40 rfl rfl (xm_lt ml_149 rfl) ?_
              refine xcps2 (α := Int32) (x2 + 1) (fun v31 ev31 => ?_)
              have zv31 : v31.toInt = (x2.toInt + 1) := by rw [← ev31]; exact (xz_add (X := x2.toInt) (Y := 1) rfl (by decide) (by omega) (by omega)).trans (by omega)
              refine xi_iinc (pc' := 44) (x := x2) (v := v31) (lv' := [(2, .int v31), (1, .int r9), (3, .int r9), (0, .ref 66)]) kc_149_41 rfl rfl ev31 rfl (xm_lt ml_149 rfl) ?_
              refine xi_goto (pc' := 5) kc_149_44 rfl ?_
              refine xw_lv (b := [(0, .ref 66), (1, .int r9), (2, .int v31)]) (lvS_cons (lvS_cons (lvS_cons (lvS_nil (show ([2, 1, 3, 0] : List Nat).Nodup by decide)) rfl) rfl) rfl) ?_
              exact i0 r9 v31 hh18 (by omega) K20 (by omega)
        · have zr17c26 : r17 ≠ 0 := xj_lc ev25 (by omega)
          refine xi_ift (pc' := 41) kc_149_25 rfl (xc_ne_t (X := v25.toInt) (Y := 0) rfl (by decide) (by omega)) ?_
          refine xcps2 (α := Int32) (x2 + 1) (fun v32 ev32 => ?_)
          have zv32 : v32.toInt = (x2.toInt + 1) := by rw [← ev32]; exact (xz_add (X := x2.toInt) (Y := 1) rfl (by decide) (by omega) (by omega)).trans (by omega)
          refine xi_iinc (pc' := 44) (x := x2) (v := v32) (lv' := [(2, .int v32), (3, .int r9), (0, .ref 66), (1, .int x1)]) kc_149_41 rfl rfl ev32 rfl (xm_lt ml_149 rfl) ?_
          refine xi_goto (pc' := 5) kc_149_44 rfl ?_
          refine xw_lv (b := [(0, .ref 66), (1, .int x1), (2, .int v32)]) (lvS_cons (lvS_cons (lvS_cons (lvS_nil (show ([2, 3, 0, 1] : List Nat).Nodup by decide)) rfl) rfl) rfl) ?_
          exact i0 x1 v32 hh18 (by omega) K20 (by omega)
    · refine xi_cmf (pc' := 9) kc_140_6 rfl (xc_ge_f (X := u4.toInt) (Y := 6) rfl (by decide) (by omega)) ?_
      refine xi_aload_n (pc' := 10) (x := 1) kc_140_9 rfl rfl ?_
      refine xi_getfield (pc' := 13) (v := .int u4) kc_140_10 rfl rfl rfl A6 rfl ?_
      refine xi_goto (pc' := 18) kc_140_13 rfl ?_
      refine xi_ireturn kc_140_18 mr_140 rfl ?_
      show xw J ov (d + 5) 139 (8, [(0, .ref 66)], [.int u4, .int 1], h) _
      refine xcps2 (α := Int32) ((1 : Int32) <<< (u4 &&& 31)) (fun v33 ev33 => ?_)
      have rv33 := xc_rng v33
      have bv33 : 1 ≤ v33.toInt ∧ v33.toInt ≤ 64 := by rw [← ev33]; exact xj_shl6 (by omega) (by omega)
      refine xi_ishl (pc' := 9) (v := v33) kc_139_8 rfl ev33 ?_
      refine xi_ireturn kc_139_9 mr_139 rfl ?_
      show xw J ov (d + 6) 149 (10, [(0, .ref 66), (1, .int x1), (2, .int x2)], [.int v33, .int x2], h) _
      by_cases c34 : v33.toInt ≤ x2.toInt
      · refine xi_cmt (pc' := 47) kc_149_10 rfl (xc_ge_t (X := x2.toInt) (Y := v33.toInt) rfl rfl (by omega)) ?_
        refine xi_iload_n (pc' := 48) (x := x1) kc_149_47 rfl rfl ?_
        refine xi_ireturn kc_149_48 mr_149 rfl ?_
        exact kk x1 h K
      · refine xi_cmf (pc' := 13) kc_149_10 rfl (xc_ge_f (X := x2.toInt) (Y := v33.toInt) rfl rfl (by omega)) ?_
        refine xi_iload_n (pc' := 14) (x := x2) kc_149_13 rfl rfl ?_
        refine xi_static (mj := 4) (as := [.int x2]) (st1 := []) (lv0 := [(0, .int x2)]) kc_149_14 rfl rfl (Nat.le_of_ble_eq_true rfl) rfl rfl (Nat.le_of_ble_eq_true rfl) (hJ _ _ _ _ (by decide)) (xm_le ml_4 rfl) rfl ?_
        refine mt_4_0 hJ hov1 hov2 (d := d + 4) (x0 := x2) K.1 (fun r35 hh36 K37 => ?_)
        have br35 := xc_rng r35
        have K38 := xk_tr K K37 rfl
        refine xp_66 K38.1 (fun u40 wl39 bu40 A41 => ?_)
        have e42 : u2 = u40 := xk_eqi (q := 8) K37 rfl A3 A41 rfl rfl
        subst e42
        show xw J ov (d + 6) 149 (17, [(0, .ref 66), (1, .int x1), (2, .int x2)], [.int r35], hh36) _
        refine xi_istore_n (pc' := 18) (lv' := [(3, .int r35), (0, .ref 66), (1, .int x1), (2, .int x2)]) kc_149_17 rfl rfl (xm_lt ml_149 rfl) ?_
        refine xi_aload_n (pc' := 19) (x := 66) kc_149_18 rfl rfl ?_
        refine xi_iload_n (pc' := 20) (x := x2) kc_149_19 rfl rfl ?_
        refine xi_virtual (mj := 146) (as := [.int x2]) (st1 := []) (lv0 := [(0, .ref 66), (1, .int x2)]) kc_149_20 rfl rfl rfl rfl rfl A41 (Nat.le_of_ble_eq_true rfl) (hJ _ _ _ _ (by decide)) (xm_le ml_146 rfl) rfl ?_
        refine mt_146_0 hJ hov1 hov2 (d := d) (x1 := x2) K38.1 (fun r43 hh44 K45 => ?_)
        have K46 := xk_tr K38 K45 rfl
        refine xp_66 K46.1 (fun u48 wl47 bu48 A49 => ?_)
        have e50 : u2 = u48 := xk_eqi (q := 8) K45 rfl A41 A49 rfl rfl
        subst e50
        show xw J ov (d + 6) 149 (23, [(3, .int r35), (0, .ref 66), (1, .int x1), (2, .int x2)], [.long r43], hh44) _
        refine xi_lconst (pc' := 24) (v := 0) kc_149_23 rfl rfl ?_
        refine xcps2 (α := Int32) (lg_cmp r43 0) (fun v51 ev51 => ?_)
        have rv51 := xc_rng v51
        refine xi_lcmp (pc' := 25) (v := v51) kc_149_24 rfl ev51 ?_
        by_cases c52 : v51.toInt = 0
        · refine xi_iff (pc' := 28) kc_149_25 rfl (xc_ne_f (X := v51.toInt) (Y := 0) rfl (by decide) (by omega)) ?_
          refine xi_iload_n (pc' := 29) (x := x1) kc_149_28 rfl rfl ?_
          refine xi_bipush (pc' := 31) (v := (-9)) kc_149_29 rfl rfl ?_
          by_cases c53 : x1.toInt = (-9)
          · refine xi_cmt (pc' := 39) kc_149_31 rfl (xc_eq_t (X := x1.toInt) (Y := (-9)) rfl (by decide) (by omega)) ?_
            refine xi_iload_n (pc' := 40) (x := r35) kc_149_39 rfl rfl ?_
            refine xi_istore_n (pc' := 41) (lv' := [(1, .int r35), (3, .int r35), (0, .ref 66), (2, .int x2)]) kc_149_40 rfl rfl (xm_lt ml_149 rfl) ?_
            refine xcps2 (α := Int32) (x2 + 1) (fun v54 ev54 => ?_)
            have zv54 : v54.toInt = (x2.toInt + 1) := by rw [← ev54]; exact (xz_add (X := x2.toInt) (Y := 1) rfl (by decide) (by omega) (by omega)).trans (by omega)
            refine xi_iinc (pc' := 44) (x := x2) (v := v54) (lv' := [(2, .int v54), (1, .int r35), (3, .int r35), (0, .ref 66)]) kc_149_41 rfl rfl ev54 rfl (xm_lt ml_149 rfl) ?_
            refine xi_goto (pc' := 5) kc_149_44 rfl ?_
            refine xw_lv (b := [(0, .ref 66), (1, .int r35), (2, .int v54)]) (lvS_cons (lvS_cons (lvS_cons (lvS_nil (show ([2, 1, 3, 0] : List Nat).Nodup by decide)) rfl) rfl) rfl) ?_
            exact i0 r35 v54 hh44 (by omega) K46 (by omega)
          · refine xi_cmf (pc' := 34) kc_149_31 rfl (xc_eq_f (X := x1.toInt) (Y := (-9)) rfl (by decide) (by omega)) ?_
            refine xi_iload_n (pc' := 35) (x := r35) kc_149_34 rfl rfl ?_
            refine xi_iload_n (pc' := 36) (x := x1) kc_149_35 rfl rfl ?_
            by_cases c55 : x1.toInt ≤ r35.toInt
            · refine xi_cmt (pc' := 41) kc_149_36 rfl (xc_ge_t (X := r35.toInt) (Y := x1.toInt) rfl rfl (by omega)) ?_
              refine xcps2 (α := Int32) (x2 + 1) (fun v56 ev56 => ?_)
              have zv56 : v56.toInt = (x2.toInt + 1) := by rw [← ev56]; exact (xz_add (X := x2.toInt) (Y := 1) rfl (by decide) (by omega) (by omega)).trans (by omega)
              refine xi_iinc (pc' := 44) (x := x2) (v := v56) (lv' := [(2, .int v56), (3, .int r35), (0, .ref 66), (1, .int x1)]) kc_149_41 rfl rfl ev56 rfl (xm_lt ml_149 rfl) ?_
              refine xi_goto (pc' := 5) kc_149_44 rfl ?_
              refine xw_lv (b := [(0, .ref 66), (1, .int x1), (2, .int v56)]) (lvS_cons (lvS_cons (lvS_cons (lvS_nil (show ([2, 3, 0, 1] : List Nat).Nodup by decide)) rfl) rfl) rfl) ?_
              exact i0 x1 v56 hh44 (by omega) K46 (by omega)
            · refine xi_cmf (pc' := 39) kc_149_36 rfl (xc_ge_f (X := r35.toInt) (Y := x1.toInt) rfl rfl (by omega)) ?_
              refine xi_iload_n (pc' := 40) (x := r35) kc_149_39 rfl rfl ?_
              refine xi_istore_n (pc' := 41) (lv' := [(1, .int r35), (3, .int r35), (0, .ref 66), (2, .int x2)]) kc_149_40 rfl rfl (xm_lt ml_149 rfl) ?_
              refine xcps2 (α := Int32) (x2 + 1) (fun v57 ev57 => ?_)
              have zv57 : v57.toInt = (x2.toInt + 1) := by rw [← ev57]; exact (xz_add (X := x2.toInt) (Y := 1) rfl (by decide) (by omega) (by omega)).trans (by omega)
              refine xi_iinc (pc' := 44) (x := x2) (v := v57) (lv' := [(2, .int v57), (1, .int r35), (3, .int r35), (0, .ref 66)]) kc_149_41 rfl rfl ev57 rfl (xm_lt ml_149 rfl) ?_
              refine xi_goto (pc' := 5) kc_149_44 rfl ?_
              refine xw_lv (b := [(0, .ref 66), (1, .int r35), (2, .int v57)]) (lvS_cons (lvS_cons (lvS_cons (lvS_nil (show ([2, 1, 3, 0] : List Nat).Nodup by decide)) rfl) rfl) rfl) ?_
              exact i0 r35 v57 hh44 (by omega) K46 (by omega)
        · have zr43c52 : r43 ≠ 0 := xj_lc ev51 (by omega)
          refine xi_ift (pc' := 41) kc_149_25 rfl (xc_ne_t (X := v51.toInt) (Y := 0) rfl (by decide) (by omega)) ?_
          refine xcps2 (α := Int32) (x2 + 1) (fun v58 ev58 => ?_)
          have zv58 : v58.toInt = (x2.toInt + 1) := by rw [← ev58]; exact (xz_add (X := x2.toInt) (Y := 1) rfl (by decide) (by omega) (by omega)).trans (by omega)
          refine xi_iinc (pc' := 44) (x := x2) (v := v58) (lv' := [(2, .int v58), (3, .int r35), (0, .ref 66), (1, .int x1)]) kc_149_41 rfl rfl ev58 rfl (xm_lt ml_149 rfl) ?_
          refine xi_goto (pc' := 5) kc_149_44 rfl ?_
          refine xw_lv (b := [(0, .ref 66), (1, .int x1), (2, .int v58)]) (lvS_cons (lvS_cons (lvS_cons (lvS_nil (show ([2, 3, 0, 1] : List Nat).Nodup by decide)) rfl) rfl) rfl) ?_
          exact i0 x1 v58 hh44 (by omega) K46 (by omega)
set_option maxHeartbeats 4000000 in
theorem mt_149_0 {J : xe_J} {ov : List (List Int32)} (hJ : ∀ d mj as h, mj ≠ xe_loff → J d mj as h = none) (hov1 : ov[1]? = some [10, 0, 0, 0, 0, 0]) (hov2 : ov[2]? = some [99, 30, 50, 50, 1, 99999]) {d : Nat} {Q : Option Value → xe_H → Prop} {h : xe_H} (T : xt h) (kk : (∀ (r : Int32) (h' : xe_H), xk [(0, 9), (115, 1), (83, 0), (29, 0), (31, 0), (33, 0), (35, 0), (37, 0), (39, 0), (41, 0), (43, 0), (45, 0), (47, 0), (49, 0), (51, 0), (125, 0), (66, 8), (115, 18), (71, 0), (132, 0)] h h' → Q (some (.int r)) h')) : xw J ov (d + 6) 149 (0, [(0, .ref 66)], [], h) Q := by
  have K : xk [(0, 9), (115, 1), (83, 0), (29, 0), (31, 0), (33, 0), (35, 0), (37, 0), (39, 0), (41, 0), (43, 0), (45, 0), (47, 0), (49, 0), (51, 0), (125, 0), (66, 8), (115, 18), (71, 0), (132, 0)] h h := xk_re T
  refine xi_bipush (pc' := 2) (v := (-9)) kc_149_0 rfl rfl ?_
  refine xi_istore_n (pc' := 3) (lv' := [(1, .int (-9)), (0, .ref 66)]) kc_149_2 rfl rfl (xm_lt ml_149 rfl) ?_
  refine xi_iconst (pc' := 4) (v := 0) kc_149_3 rfl rfl ?_
  refine xi_istore_n (pc' := 5) (lv' := [(2, .int 0), (1, .int (-9)), (0, .ref 66)]) kc_149_4 rfl rfl (xm_lt ml_149 rfl) ?_
  have zcm9 : ((-9) : Int32).toInt = (-9) := by decide
  have zc0 : (0 : Int32).toInt = 0 := by decide
  refine xw_lv (b := [(0, .ref 66), (1, .int (-9)), (2, .int 0)]) (lvS_cons (lvS_cons (lvS_cons (lvS_nil (show ([2, 1, 0] : List Nat).Nodup by decide)) rfl) rfl) rfl) ?_
  exact (lp_149_0 hJ hov1 hov2 (d := d) (hb := h) (fun r9 h9 K9 => kk r9 h9 (xk_tr K K9 rfl)) 65) (-9) 0 h (by omega) (xk_re K.1) (by omega)
set_option maxHeartbeats 4000000 in
theorem lp_150_0 {J : xe_J} {ov : List (List Int32)} (hJ : ∀ d mj as h, mj ≠ xe_loff → J d mj as h = none) (hov1 : ov[1]? = some [10, 0, 0, 0, 0, 0]) (hov2 : ov[2]? = some [99, 30, 50, 50, 1, 99999]) {d : Nat} {Q : Option Value → xe_H → Prop} {hb : xe_H} (kk : (∀ (r : Int32) (h' : xe_H), xk [(0, 9), (115, 1), (83, 0), (29, 0), (31, 0), (33, 0), (35, 0), (37, 0), (39, 0), (41, 0), (43, 0), (45, 0), (47, 0), (49, 0), (51, 0), (125, 0), (66, 8), (115, 18), (71, 0), (132, 0)] hb h' → Q (some (.int r)) h')) : ∀ m : Nat, (∀ (x1 : Int32) (x2 : Int32) (x3 : Int32) (h : xe_H), (0 ≤ x3.toInt ∧ x3.toInt ≤ 64) → xk [(0, 9), (115, 1), (83, 0), (29, 0), (31, 0), (33, 0), (35, 0), (37, 0), (39, 0), (41, 0), (43, 0), (45, 0), (47, 0), (49, 0), (51, 0), (125, 0), (66, 8), (115, 18), (71, 0), (132, 0)] hb h → (-1) * x3.toInt + 64 < (m : Int) → xw J ov (d + 6) 150 (4, [(0, .ref 66), (1, .int x1), (2, .int x2), (3, .int x3)], [], h) Q) := by
  intro m
  induction m with
  | zero =>
    intro x1 x2 x3 h b3 K hm; have rx1 := xc_rng x1; have rx2 := xc_rng x2; exfalso; omega
  | succ m ih =>
    have i0 := ih
    intro x1 x2 x3 h b3 K hm
    have rx1 := xc_rng x1
    have rx2 := xc_rng x2
    refine xi_iload_n (pc' := 5) (x := x3) kc_150_4 rfl rfl ?_
    refine xi_aload_n (pc' := 6) (x := 66) kc_150_5 rfl rfl ?_
    refine xp_66 K.1 (fun u2 wl1 bu2 A3 => ?_)
    refine xi_virtual (mj := 139) (as := []) (st1 := [.int x3]) (lv0 := [(0, .ref 66)]) kc_150_6 rfl rfl rfl rfl rfl A3 (Nat.le_of_ble_eq_true rfl) (hJ _ _ _ _ (by decide)) (xm_le ml_139 rfl) rfl ?_
    refine xi_iconst (pc' := 1) (v := 1) kc_139_0 rfl rfl ?_
    refine xi_aload_n (pc' := 2) (x := 66) kc_139_1 rfl rfl ?_
    refine xi_getfield (pc' := 5) (v := .ref 1) kc_139_2 rfl rfl rfl A3 rfl ?_
    refine xp_1 K.1 (fun u4 u5 bu4 bu5 A6 => ?_)
    refine xi_virtual (mj := 140) (as := []) (st1 := [.int 1]) (lv0 := [(0, .ref 1)]) kc_139_5 rfl rfl rfl rfl rfl A6 (Nat.le_of_ble_eq_true rfl) (hJ _ _ _ _ (by decide)) (xm_le ml_140 rfl) rfl ?_
    refine xi_aload_n (pc' := 1) (x := 1) kc_140_0 rfl rfl ?_
    refine xi_getfield (pc' := 4) (v := .int u4) kc_140_1 rfl rfl rfl A6 rfl ?_
    refine xi_bipush (pc' := 6) (v := 6) kc_140_4 rfl rfl ?_
    by_cases c7 : 6 ≤ u4.toInt
    · refine xi_cmt (pc' := 16) kc_140_6 rfl (xc_ge_t (X := u4.toInt) (Y := 6) rfl (by decide) (by omega)) ?_
      refine xi_bipush (pc' := 18) (v := 6) kc_140_16 rfl rfl ?_
      refine xi_ireturn kc_140_18 mr_140 rfl ?_
      show xw J ov (d + 5) 139 (8, [(0, .ref 66)], [.int 6, .int 1], h) _
      refine xi_ishl (pc' := 9) (v := 64) kc_139_8 rfl rfl ?_
      refine xi_ireturn kc_139_9 mr_139 rfl ?_
      show xw J ov (d + 6) 150 (9, [(0, .ref 66), (1, .int x1), (2, .int x2), (3, .int x3)], [.int 64, .int x3], h) _
      by_cases c8 : 64 ≤ x3.toInt
      · refine xi_cmt (pc' := 39) kc_150_9 rfl (xc_ge_t (X := x3.toInt) (Y := 64) rfl (by decide) (by omega)) ?_
        refine xi_iload_n (pc' := 40) (x := x2) kc_150_39 rfl rfl ?_
        refine xi_ireturn kc_150_40 mr_150 rfl ?_
        exact kk x2 h K
      · refine xi_cmf (pc' := 12) kc_150_9 rfl (xc_ge_f (X := x3.toInt) (Y := 64) rfl (by decide) (by omega)) ?_
        refine xi_iload_n (pc' := 13) (x := x3) kc_150_12 rfl rfl ?_
        refine xi_static (mj := 4) (as := [.int x3]) (st1 := []) (lv0 := [(0, .int x3)]) kc_150_13 rfl rfl (Nat.le_of_ble_eq_true rfl) rfl rfl (Nat.le_of_ble_eq_true rfl) (hJ _ _ _ _ (by decide)) (xm_le ml_4 rfl) rfl ?_
        refine mt_4_0 hJ hov1 hov2 (d := d + 4) (x0 := x3) K.1 (fun r9 hh10 K11 => ?_)
        have br9 := xc_rng r9
        have K12 := xk_tr K K11 rfl
        refine xp_66 K12.1 (fun u14 wl13 bu14 A15 => ?_)
        have e16 : u2 = u14 := xk_eqi (q := 8) K11 rfl A3 A15 rfl rfl
        subst e16
        show xw J ov (d + 6) 150 (16, [(0, .ref 66), (1, .int x1), (2, .int x2), (3, .int x3)], [.int r9], hh10) _
        refine xi_iload_n (pc' := 17) (x := x1) kc_150_16 rfl rfl ?_
        by_cases c17 : r9.toInt = x1.toInt
        · refine xi_cmf (pc' := 20) kc_150_17 rfl (xc_ne_f (X := r9.toInt) (Y := x1.toInt) rfl rfl (by omega)) ?_
          refine xi_aload_n (pc' := 21) (x := 66) kc_150_20 rfl rfl ?_
          refine xi_iload_n (pc' := 22) (x := x3) kc_150_21 rfl rfl ?_
          refine xi_virtual (mj := 146) (as := [.int x3]) (st1 := []) (lv0 := [(0, .ref 66), (1, .int x3)]) kc_150_22 rfl rfl rfl rfl rfl A15 (Nat.le_of_ble_eq_true rfl) (hJ _ _ _ _ (by decide)) (xm_le ml_146 rfl) rfl ?_
          refine mt_146_0 hJ hov1 hov2 (d := d) (x1 := x3) K12.1 (fun r18 hh19 K20 => ?_)
          have K21 := xk_tr K12 K20 rfl
          refine xp_66 K21.1 (fun u23 wl22 bu23 A24 => ?_)
          have e25 : u2 = u23 := xk_eqi (q := 8) K20 rfl A15 A24 rfl rfl
          subst e25
          show xw J ov (d + 6) 150 (25, [(0, .ref 66), (1, .int x1), (2, .int x2), (3, .int x3)], [.long r18], hh19) _
          refine xi_lconst (pc' := 26) (v := 0) kc_150_25 rfl rfl ?_
          refine xcps2 (α := Int32) (lg_cmp r18 0) (fun v26 ev26 => ?_)
          have rv26 := xc_rng v26
          refine xi_lcmp (pc' := 27) (v := v26) kc_150_26 rfl ev26 ?_
          by_cases c27 : v26.toInt = 0
          · refine xi_iff (pc' := 30) kc_150_27 rfl (xc_ne_f (X := v26.toInt) (Y := 0) rfl (by decide) (by omega)) ?_
            refine xcps2 (α := Int32) ((x2 : Int32) + 1) (fun v28 ev28 => ?_)
            have rv28 := xc_rng v28
            refine xi_iinc (pc' := 33) (x := x2) (v := v28) (lv' := [(2, .int v28), (0, .ref 66), (1, .int x1), (3, .int x3)]) kc_150_30 rfl rfl ev28 rfl (xm_lt ml_150 rfl) ?_
            refine xcps2 (α := Int32) (x3 + 1) (fun v29 ev29 => ?_)
            have zv29 : v29.toInt = (x3.toInt + 1) := by rw [← ev29]; exact (xz_add (X := x3.toInt) (Y := 1) rfl (by decide) (by omega) (by omega)).trans (by omega)
            refine xi_iinc (pc' := 36) (x := x3) (v := v29) (lv' := [(3, .int v29), (2, .int v28), (0, .ref 66), (1, .int x1)]) kc_150_33 rfl rfl ev29 rfl (xm_lt ml_150 rfl) ?_
            refine xi_goto (pc' := 4) kc_150_36 rfl ?_
            refine xw_lv (b := [(0, .ref 66), (1, .int x1), (2, .int v28), (3, .int v29)]) (lvS_cons (lvS_cons (lvS_cons (lvS_cons (lvS_nil (show ([3, 2, 0, 1] : List Nat).Nodup by decide)) rfl) rfl) rfl) rfl) ?_
            exact i0 x1 v28 v29 hh19 (by omega) K21 (by omega)
          · have zr18c27 : r18 ≠ 0 := xj_lc ev26 (by omega)
            refine xi_ift (pc' := 33) kc_150_27 rfl (xc_ne_t (X := v26.toInt) (Y := 0) rfl (by decide) (by omega)) ?_
            refine xcps2 (α := Int32) (x3 + 1) (fun v30 ev30 => ?_)
            have zv30 : v30.toInt = (x3.toInt + 1) := by rw [← ev30]; exact (xz_add (X := x3.toInt) (Y := 1) rfl (by decide) (by omega) (by omega)).trans (by omega)
            refine xi_iinc (pc' := 36) (x := x3) (v := v30) (lv' := [(3, .int v30), (0, .ref 66), (1, .int x1), (2, .int x2)]) kc_150_33 rfl rfl ev30 rfl (xm_lt ml_150 rfl) ?_
            refine xi_goto (pc' := 4) kc_150_36 rfl ?_
            refine xw_lv (b := [(0, .ref 66), (1, .int x1), (2, .int x2), (3, .int v30)]) (lvS_cons (lvS_cons (lvS_cons (lvS_cons (lvS_nil (show ([3, 0, 1, 2] : List Nat).Nodup by decide)) rfl) rfl) rfl) rfl) ?_
            exact i0 x1 x2 v30 hh19 (by omega) K21 (by omega)
        · refine xi_cmt (pc' := 33) kc_150_17 rfl (xc_ne_t (X := r9.toInt) (Y := x1.toInt) rfl rfl (by omega)) ?_
          refine xcps2 (α := Int32) (x3 + 1) (fun v31 ev31 => ?_)
          have zv31 : v31.toInt = (x3.toInt + 1) := by rw [← ev31]; exact (xz_add (X := x3.toInt) (Y := 1) rfl (by decide) (by omega) (by omega)).trans (by omega)
          refine xi_iinc (pc' := 36) (x := x3) (v := v31) (lv' := [(3, .int v31), (0, .ref 66), (1, .int x1), (2, .int x2)]) kc_150_33 rfl rfl ev31 rfl (xm_lt ml_150 rfl) ?_
          refine xi_goto (pc' := 4) kc_150_36 rfl ?_
          refine xw_lv (b := [(0, .ref 66), (1, .int x1), (2, .int x2), (3, .int v31)]) (lvS_cons (lvS_cons (lvS_cons (lvS_cons (lvS_nil (show ([3, 0, 1, 2] : List Nat).Nodup by decide)) rfl) rfl) rfl) rfl) ?_
          exact i0 x1 x2 v31 hh10 (by omega) K12 (by omega)
    · refine xi_cmf (pc' := 9) kc_140_6 rfl (xc_ge_f (X := u4.toInt) (Y := 6) rfl (by decide) (by omega)) ?_
      refine xi_aload_n (pc' := 10) (x := 1) kc_140_9 rfl rfl ?_
      refine xi_getfield (pc' := 13) (v := .int u4) kc_140_10 rfl rfl rfl A6 rfl ?_
      refine xi_goto (pc' := 18) kc_140_13 rfl ?_
      refine xi_ireturn kc_140_18 mr_140 rfl ?_
      show xw J ov (d + 5) 139 (8, [(0, .ref 66)], [.int u4, .int 1], h) _
      refine xcps2 (α := Int32) ((1 : Int32) <<< (u4 &&& 31)) (fun v32 ev32 => ?_)
      have rv32 := xc_rng v32
      have bv32 : 1 ≤ v32.toInt ∧ v32.toInt ≤ 64 := by rw [← ev32]; exact xj_shl6 (by omega) (by omega)
      refine xi_ishl (pc' := 9) (v := v32) kc_139_8 rfl ev32 ?_
      refine xi_ireturn kc_139_9 mr_139 rfl ?_
      show xw J ov (d + 6) 150 (9, [(0, .ref 66), (1, .int x1), (2, .int x2), (3, .int x3)], [.int v32, .int x3], h) _
      by_cases c33 : v32.toInt ≤ x3.toInt
      · refine xi_cmt (pc' := 39) kc_150_9 rfl (xc_ge_t (X := x3.toInt) (Y := v32.toInt) rfl rfl (by omega)) ?_
        refine xi_iload_n (pc' := 40) (x := x2) kc_150_39 rfl rfl ?_
        refine xi_ireturn kc_150_40 mr_150 rfl ?_
        exact kk x2 h K
      · refine xi_cmf (pc' := 12) kc_150_9 rfl (xc_ge_f (X := x3.toInt) (Y := v32.toInt) rfl rfl (by omega)) ?_
        refine xi_iload_n (pc' := 13) (x := x3) kc_150_12 rfl rfl ?_
        refine xi_static (mj := 4) (as := [.int x3]) (st1 := []) (lv0 := [(0, .int x3)]) kc_150_13 rfl rfl (Nat.le_of_ble_eq_true rfl) rfl rfl (Nat.le_of_ble_eq_true rfl) (hJ _ _ _ _ (by decide)) (xm_le ml_4 rfl) rfl ?_
        refine mt_4_0 hJ hov1 hov2 (d := d + 4) (x0 := x3) K.1 (fun r34 hh35 K36 => ?_)
        have br34 := xc_rng r34
        have K37 := xk_tr K K36 rfl
        refine xp_66 K37.1 (fun u39 wl38 bu39 A40 => ?_)
        have e41 : u2 = u39 := xk_eqi (q := 8) K36 rfl A3 A40 rfl rfl
        subst e41
        show xw J ov (d + 6) 150 (16, [(0, .ref 66), (1, .int x1), (2, .int x2), (3, .int x3)], [.int r34], hh35) _
        refine xi_iload_n (pc' := 17) (x := x1) kc_150_16 rfl rfl ?_
        by_cases c42 : r34.toInt = x1.toInt
        · refine xi_cmf (pc' := 20) kc_150_17 rfl (xc_ne_f (X := r34.toInt) (Y := x1.toInt) rfl rfl (by omega)) ?_
          refine xi_aload_n (pc' := 21) (x := 66) kc_150_20 rfl rfl ?_
          refine xi_iload_n (pc' := 22) (x := x3) kc_150_21 rfl rfl ?_
          refine xi_virtual (mj := 146) (as := [.int x3]) (st1 := []) (lv0 := [(0, .ref 66), (1, .int x3)]) kc_150_22 rfl rfl rfl rfl rfl A40 (Nat.le_of_ble_eq_true rfl) (hJ _ _ _ _ (by decide)) (xm_le ml_146 rfl) rfl ?_
          refine mt_146_0 hJ hov1 hov2 (d := d) (x1 := x3) K37.1 (fun r43 hh44 K45 => ?_)
          have K46 := xk_tr K37 K45 rfl
          refine xp_66 K46.1 (fun u48 wl47 bu48 A49 => ?_)
          have e50 : u2 = u48 := xk_eqi (q := 8) K45 rfl A40 A49 rfl rfl
          subst e50
          show xw J ov (d + 6) 150 (25, [(0, .ref 66), (1, .int x1), (2, .int x2), (3, .int x3)], [.long r43], hh44) _
          refine xi_lconst (pc' := 26) (v := 0) kc_150_25 rfl rfl ?_
          refine xcps2 (α := Int32) (lg_cmp r43 0) (fun v51 ev51 => ?_)
          have rv51 := xc_rng v51
          refine xi_lcmp (pc' := 27) (v := v51) kc_150_26 rfl ev51 ?_
          by_cases c52 : v51.toInt = 0
          · refine xi_iff (pc' := 30) kc_150_27 rfl (xc_ne_f (X := v51.toInt) (Y := 0) rfl (by decide) (by omega)) ?_
            refine xcps2 (α := Int32) ((x2 : Int32) + 1) (fun v53 ev53 => ?_)
            have rv53 := xc_rng v53
            refine xi_iinc (pc' := 33) (x := x2) (v := v53) (lv' := [(2, .int v53), (0, .ref 66), (1, .int x1), (3, .int x3)]) kc_150_30 rfl rfl ev53 rfl (xm_lt ml_150 rfl) ?_
            refine xcps2 (α := Int32) (x3 + 1) (fun v54 ev54 => ?_)
            have zv54 : v54.toInt = (x3.toInt + 1) := by rw [← ev54]; exact (xz_add (X := x3.toInt) (Y := 1) rfl (by decide) (by omega) (by omega)).trans (by omega)
            refine xi_iinc (pc' := 36) (x := x3) (v := v54) (lv' := [(3, .int v54), (2, .int v53), (0, .ref 66), (1, .int x1)]) kc_150_33 rfl rfl ev54 rfl (xm_lt ml_150 rfl) ?_
            refine xi_goto (pc' := 4) kc_150_36 rfl ?_
            refine xw_lv (b := [(0, .ref 66), (1, .int x1), (2, .int v53), (3, .int v54)]) (lvS_cons (lvS_cons (lvS_cons (lvS_cons (lvS_nil (show ([3, 2, 0, 1] : List Nat).Nodup by decide)) rfl) rfl) rfl) rfl) ?_
            exact i0 x1 v53 v54 hh44 (by omega) K46 (by omega)
          · have zr43c52 : r43 ≠ 0 := xj_lc ev51 (by omega)
            refine xi_ift (pc' := 33) kc_150_27 rfl (xc_ne_t (X := v51.toInt) (Y := 0) rfl (by decide) (by omega)) ?_
            refine xcps2 (α := Int32) (x3 + 1) (fun v55 ev55 => ?_)
            have zv55 : v55.toInt = (x3.toInt + 1) := by rw [← ev55]; exact (xz_add (X := x3.toInt) (Y := 1) rfl (by decide) (by omega) (by omega)).trans (by omega)
            refine xi_iinc (pc' := 36) (x := x3) (v := v55) (lv' := [(3, .int v55), (0, .ref 66), (1, .int x1), (2, .int x2)]) kc_150_33 rfl rfl ev55 rfl (xm_lt ml_150 rfl) ?_
            refine xi_goto (pc' := 4) kc_150_36 rfl ?_
            refine xw_lv (b := [(0, .ref 66), (1, .int x1), (2, .int x2), (3, .int v55)]) (lvS_cons (lvS_cons (lvS_cons (lvS_cons (lvS_nil (show ([3, 0, 1, 2] : List Nat).Nodup by decide)) rfl) rfl) rfl) rfl) ?_
            exact i0 x1 x2 v55 hh44 (by omega) K46 (by omega)
        · refine xi_cmt (pc' := 33) kc_150_17 rfl (xc_ne_t (X := r34.toInt) (Y := x1.toInt) rfl rfl (by omega)) ?_
          refine xcps2 (α := Int32) (x3 + 1) (fun v56 ev56 => ?_)
          have zv56 : v56.toInt = (x3.toInt + 1) := by rw [← ev56]; exact (xz_add (X := x3.toInt) (Y := 1) rfl (by decide) (by omega) (by omega)).trans (by omega)
          refine xi_iinc (pc' := 36) (x := x3) (v := v56) (lv' := [(3, .int v56), (0, .ref 66), (1, .int x1), (2, .int x2)]) kc_150_33 rfl rfl ev56 rfl (xm_lt ml_150 rfl) ?_
          refine xi_goto (pc' := 4) kc_150_36 rfl ?_
          refine xw_lv (b := [(0, .ref 66), (1, .int x1), (2, .int x2), (3, .int v56)]) (lvS_cons (lvS_cons (lvS_cons (lvS_cons (lvS_nil (show ([3, 0, 1, 2] : List Nat).Nodup by decide)) rfl) rfl) rfl) rfl) ?_
          exact i0 x1 x2 v56 hh35 (by omega) K37 (by omega)
set_option maxHeartbeats 4000000 in
theorem mt_150_0 {J : xe_J} {ov : List (List Int32)} (hJ : ∀ d mj as h, mj ≠ xe_loff → J d mj as h = none) (hov1 : ov[1]? = some [10, 0, 0, 0, 0, 0]) (hov2 : ov[2]? = some [99, 30, 50, 50, 1, 99999]) {d : Nat} {Q : Option Value → xe_H → Prop} {h : xe_H} {x1 : Int32} (T : xt h) (kk : (∀ (r : Int32) (h' : xe_H), xk [(0, 9), (115, 1), (83, 0), (29, 0), (31, 0), (33, 0), (35, 0), (37, 0), (39, 0), (41, 0), (43, 0), (45, 0), (47, 0), (49, 0), (51, 0), (125, 0), (66, 8), (115, 18), (71, 0), (132, 0)] h h' → Q (some (.int r)) h')) : xw J ov (d + 6) 150 (0, [(0, .ref 66), (1, .int x1)], [], h) Q := by
  have K : xk [(0, 9), (115, 1), (83, 0), (29, 0), (31, 0), (33, 0), (35, 0), (37, 0), (39, 0), (41, 0), (43, 0), (45, 0), (47, 0), (49, 0), (51, 0), (125, 0), (66, 8), (115, 18), (71, 0), (132, 0)] h h := xk_re T
  have rx1 := xc_rng x1
  refine xi_iconst (pc' := 1) (v := 0) kc_150_0 rfl rfl ?_
  refine xi_istore_n (pc' := 2) (lv' := [(2, .int 0), (0, .ref 66), (1, .int x1)]) kc_150_1 rfl rfl (xm_lt ml_150 rfl) ?_
  refine xi_iconst (pc' := 3) (v := 0) kc_150_2 rfl rfl ?_
  refine xi_istore_n (pc' := 4) (lv' := [(3, .int 0), (2, .int 0), (0, .ref 66), (1, .int x1)]) kc_150_3 rfl rfl (xm_lt ml_150 rfl) ?_
  have zc0 : (0 : Int32).toInt = 0 := by decide
  refine xw_lv (b := [(0, .ref 66), (1, .int x1), (2, .int 0), (3, .int 0)]) (lvS_cons (lvS_cons (lvS_cons (lvS_cons (lvS_nil (show ([3, 2, 0, 1] : List Nat).Nodup by decide)) rfl) rfl) rfl) rfl) ?_
  exact (lp_150_0 hJ hov1 hov2 (d := d) (hb := h) (fun r9 h9 K9 => kk r9 h9 (xk_tr K K9 rfl)) 65) x1 0 0 h (by omega) (xk_re K.1) (by omega)
