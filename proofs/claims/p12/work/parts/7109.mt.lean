set_option maxHeartbeats 4000000 in
theorem lp_61_0 {J : xe_J} {ov : List (List Int32)} (hJ : ∀ d mj as h, mj ≠ xe_loff → J d mj as h = none) (hov1 : ov[1]? = some [10, 0, 0, 0, 0, 0]) (hov2 : ov[2]? = some [99, 30, 50, 50, 1, 99999]) {d : Nat} {Q : Option Value → xe_H → Prop} {hb : xe_H} (kk : (∀ (r : Int32) (h' : xe_H), ((-6) ≤ r.toInt ∧ r.toInt ≤ 19) → xk [(0, 9), (115, 1), (83, 0), (29, 0), (31, 0), (33, 0), (35, 0), (37, 0), (39, 0), (41, 0), (43, 0), (45, 0), (47, 0), (49, 0), (51, 0), (125, 0), (66, 8), (115, 18), (71, 0), (132, 0)] hb h' → Q (some (.int r)) h')) : ∀ m : Nat, (∀ (x1 : Int32) (x2 : Int32) (x3 : Int32) (x4 : Int32) (x5 : Int32) (x6 : Int32) (h : xe_H), (0 ≤ x1.toInt ∧ x1.toInt ≤ 5) → (0 ≤ x2.toInt ∧ x2.toInt ≤ 1) → (0 ≤ x6.toInt ∧ x6.toInt ≤ 20) → xk [(0, 9), (115, 1), (83, 0), (29, 0), (31, 0), (33, 0), (35, 0), (37, 0), (39, 0), (41, 0), (43, 0), (45, 0), (47, 0), (49, 0), (51, 0), (125, 0), (66, 8), (115, 18), (71, 0), (132, 0)] hb h → (-1) * x6.toInt + 20 < (m : Int) → xw J ov (d + 2) 61 (37, [(0, .ref 115), (1, .int x1), (2, .int x2), (3, .int x3), (4, .int x4), (5, .int x5), (6, .int x6)], [], h) Q) := by
  intro m
  induction m with
  | zero =>
    intro x1 x2 x3 x4 x5 x6 h b1 b2 b6 K hm; have rx3 := xc_rng x3; have rx4 := xc_rng x4; have rx5 := xc_rng x5; exfalso; omega
  | succ m ih =>
    have i0 := ih
    intro x1 x2 x3 x4 x5 x6 h b1 b2 b6 K hm
    have rx3 := xc_rng x3
    have rx4 := xc_rng x4
    have rx5 := xc_rng x5
    refine xi_iload (pc' := 39) (x := x6) kc_61_37 rfl rfl ?_
    refine xi_aload_n (pc' := 40) (x := 115) kc_61_39 rfl rfl ?_
    refine xp_115 K.1 (fun u1 u2 u3 u4 u5 u6 u7 u8 u9 u10 u11 u12 u13 bu1 bu2 bu3 bu4 bu5 bu6 bu7 bu8 bu9 bu10 bu11 bu12 bu13 A14 => ?_)
    refine xi_getfield (pc' := 43) (v := .int u8) kc_61_40 rfl rfl rfl A14 rfl ?_
    by_cases c15 : u8.toInt ≤ x6.toInt
    · refine xi_cmt (pc' := 94) kc_61_43 rfl (xc_ge_t (X := x6.toInt) (Y := u8.toInt) rfl rfl (by omega)) ?_
      refine xi_iload_n (pc' := 95) (x := x3) kc_61_94 rfl rfl ?_
      by_cases c16 : x3.toInt < 0
      · refine xi_ift (pc' := 114) kc_61_95 rfl (xc_lt_t (X := x3.toInt) (Y := 0) rfl (by decide) (by omega)) ?_
        refine xi_aload_n (pc' := 115) (x := 115) kc_61_114 rfl rfl ?_
        refine xi_bipush (pc' := 117) (v := (-4)) kc_61_115 rfl rfl ?_
        refine xi_virtual (mj := 12) (as := [.int (-4)]) (st1 := []) (lv0 := [(0, .ref 115), (1, .int (-4))]) kc_61_117 rfl rfl rfl rfl rfl A14 (Nat.le_of_ble_eq_true rfl) (hJ _ _ _ _ (by decide)) (xm_le ml_12 rfl) rfl ?_
        refine xi_aload_n (pc' := 1) (x := 115) kc_12_0 rfl rfl ?_
        refine xi_getfield (pc' := 4) (v := .ref 140) kc_12_1 rfl rfl rfl A14 rfl ?_
        refine xi_iload_n (pc' := 5) (x := (-4)) kc_12_4 rfl rfl ?_
        refine xi_ineg (pc' := 6) (v := 4) kc_12_5 rfl rfl ?_
        refine xi_dup2 (pc' := 7) kc_12_6 rfl ⟨rfl, rfl⟩ ?_
        refine xcps4 (xk_arr K.1 xD_140) (fun y17 A17 hy17 ry17 => ?_)
        refine xcps4 (xj_get hy17 ry17 (i := 4) (by decide) (by decide)) (fun v18 ev18 bv18 dv18 => ?_)
        refine xi_iaload (pc' := 8) (v := v18) kc_12_7 rfl A17 (by decide) rfl (xi_in (by decide) (by rw [hy17]; decide)) ev18 ?_
        refine xi_iconst (pc' := 9) (v := 1) kc_12_8 rfl rfl ?_
        refine xcps2 (α := Int32) ((v18 : Int32) + 1) (fun v19 ev19 => ?_)
        have rv19 := xc_rng v19
        refine xi_iadd (pc' := 10) (v := v19) kc_12_9 rfl ev19 ?_
        refine xcps4 (xj_set (v := v19) hy17 ry17 4 (by first | omega | decide) (by first | omega | decide)) (fun y20 s20 hy20 ry20 => ?_)
        refine xi_iastore (pc' := 11) (x' := y20) kc_12_10 rfl A17 rfl (xi_in (by decide) (by rw [hy17]; decide)) s20 (fun hh20 eh20 => ?_)
        have K21 := xk_pa K (xk_wa rfl) xD_140 hy20 ry20 eh20
        refine xi_iload_n (pc' := 12) (x := (-4)) kc_12_11 rfl rfl ?_
        refine xi_ireturn kc_12_12 mr_12 rfl ?_
        show xw J ov (d + 2) 61 (120, [(0, .ref 115), (1, .int x1), (2, .int x2), (3, .int x3), (4, .int x4), (5, .int x5), (6, .int x6)], [.int (-4)], hh20) _
        refine xi_ireturn kc_61_120 mr_61 rfl ?_
        have zcm4 : ((-4) : Int32).toInt = (-4) := by decide
        exact kk (-4) hh20 (by omega) K21
      · refine xi_iff (pc' := 98) kc_61_95 rfl (xc_lt_f (X := x3.toInt) (Y := 0) rfl (by decide) (by omega)) ?_
        refine xi_iload (pc' := 100) (x := x4) kc_61_98 rfl rfl ?_
        refine xi_aload_n (pc' := 101) (x := 115) kc_61_100 rfl rfl ?_
        refine xi_getfield (pc' := 104) (v := .int u2) kc_61_101 rfl rfl rfl A14 rfl ?_
        by_cases c22 : x4.toInt < u2.toInt
        · refine xi_cmt (pc' := 114) kc_61_104 rfl (xc_lt_t (X := x4.toInt) (Y := u2.toInt) rfl rfl (by omega)) ?_
          refine xi_aload_n (pc' := 115) (x := 115) kc_61_114 rfl rfl ?_
          refine xi_bipush (pc' := 117) (v := (-4)) kc_61_115 rfl rfl ?_
          refine xi_virtual (mj := 12) (as := [.int (-4)]) (st1 := []) (lv0 := [(0, .ref 115), (1, .int (-4))]) kc_61_117 rfl rfl rfl rfl rfl A14 (Nat.le_of_ble_eq_true rfl) (hJ _ _ _ _ (by decide)) (xm_le ml_12 rfl) rfl ?_
          refine xi_aload_n (pc' := 1) (x := 115) kc_12_0 rfl rfl ?_
          refine xi_getfield (pc' := 4) (v := .ref 140) kc_12_1 rfl rfl rfl A14 rfl ?_
          refine xi_iload_n (pc' := 5) (x := (-4)) kc_12_4 rfl rfl ?_
          refine xi_ineg (pc' := 6) (v := 4) kc_12_5 rfl rfl ?_
          refine xi_dup2 (pc' := 7) kc_12_6 rfl ⟨rfl, rfl⟩ ?_
          refine xcps4 (xk_arr K.1 xD_140) (fun y23 A23 hy23 ry23 => ?_)
          refine xcps4 (xj_get hy23 ry23 (i := 4) (by decide) (by decide)) (fun v24 ev24 bv24 dv24 => ?_)
          refine xi_iaload (pc' := 8) (v := v24) kc_12_7 rfl A23 (by decide) rfl (xi_in (by decide) (by rw [hy23]; decide)) ev24 ?_
          refine xi_iconst (pc' := 9) (v := 1) kc_12_8 rfl rfl ?_
          refine xcps2 (α := Int32) ((v24 : Int32) + 1) (fun v25 ev25 => ?_)
          have rv25 := xc_rng v25
          refine xi_iadd (pc' := 10) (v := v25) kc_12_9 rfl ev25 ?_
          refine xcps4 (xj_set (v := v25) hy23 ry23 4 (by first | omega | decide) (by first | omega | decide)) (fun y26 s26 hy26 ry26 => ?_)
          refine xi_iastore (pc' := 11) (x' := y26) kc_12_10 rfl A23 rfl (xi_in (by decide) (by rw [hy23]; decide)) s26 (fun hh26 eh26 => ?_)
          have K27 := xk_pa K (xk_wa rfl) xD_140 hy26 ry26 eh26
          refine xi_iload_n (pc' := 12) (x := (-4)) kc_12_11 rfl rfl ?_
          refine xi_ireturn kc_12_12 mr_12 rfl ?_
          show xw J ov (d + 2) 61 (120, [(0, .ref 115), (1, .int x1), (2, .int x2), (3, .int x3), (4, .int x4), (5, .int x5), (6, .int x6)], [.int (-4)], hh26) _
          refine xi_ireturn kc_61_120 mr_61 rfl ?_
          have zcm4 : ((-4) : Int32).toInt = (-4) := by decide
          exact kk (-4) hh26 (by omega) K27
        · refine xi_cmf (pc' := 107) kc_61_104 rfl (xc_lt_f (X := x4.toInt) (Y := u2.toInt) rfl rfl (by omega)) ?_
          refine xi_iload (pc' := 109) (x := x5) kc_61_107 rfl rfl ?_
          refine xi_iload (pc' := 111) (x := x4) kc_61_109 rfl rfl ?_
          by_cases c28 : x4.toInt < x5.toInt
          · refine xi_cmt (pc' := 121) kc_61_111 rfl (xc_gt_t (X := x5.toInt) (Y := x4.toInt) rfl rfl (by omega)) ?_
            refine xi_iload (pc' := 123) (x := x5) kc_61_121 rfl rfl ?_
            refine xi_sipush (pc' := 126) (v := 600) kc_61_123 rfl rfl ?_
            by_cases c29 : 600 < x5.toInt
            · refine xi_cmt (pc' := 144) kc_61_126 rfl (xc_gt_t (X := x5.toInt) (Y := 600) rfl (by decide) (by omega)) ?_
              refine xi_aload_n (pc' := 145) (x := 115) kc_61_144 rfl rfl ?_
              refine xi_bipush (pc' := 147) (v := (-6)) kc_61_145 rfl rfl ?_
              refine xi_virtual (mj := 12) (as := [.int (-6)]) (st1 := []) (lv0 := [(0, .ref 115), (1, .int (-6))]) kc_61_147 rfl rfl rfl rfl rfl A14 (Nat.le_of_ble_eq_true rfl) (hJ _ _ _ _ (by decide)) (xm_le ml_12 rfl) rfl ?_
              refine xi_aload_n (pc' := 1) (x := 115) kc_12_0 rfl rfl ?_
              refine xi_getfield (pc' := 4) (v := .ref 140) kc_12_1 rfl rfl rfl A14 rfl ?_
              refine xi_iload_n (pc' := 5) (x := (-6)) kc_12_4 rfl rfl ?_
              refine xi_ineg (pc' := 6) (v := 6) kc_12_5 rfl rfl ?_
              refine xi_dup2 (pc' := 7) kc_12_6 rfl ⟨rfl, rfl⟩ ?_
              refine xcps4 (xk_arr K.1 xD_140) (fun y30 A30 hy30 ry30 => ?_)
              refine xcps4 (xj_get hy30 ry30 (i := 6) (by decide) (by decide)) (fun v31 ev31 bv31 dv31 => ?_)
              refine xi_iaload (pc' := 8) (v := v31) kc_12_7 rfl A30 (by decide) rfl (xi_in (by decide) (by rw [hy30]; decide)) ev31 ?_
              refine xi_iconst (pc' := 9) (v := 1) kc_12_8 rfl rfl ?_
              refine xcps2 (α := Int32) ((v31 : Int32) + 1) (fun v32 ev32 => ?_)
              have rv32 := xc_rng v32
              refine xi_iadd (pc' := 10) (v := v32) kc_12_9 rfl ev32 ?_
              refine xcps4 (xj_set (v := v32) hy30 ry30 6 (by first | omega | decide) (by first | omega | decide)) (fun y33 s33 hy33 ry33 => ?_)
              refine xi_iastore (pc' := 11) (x' := y33) kc_12_10 rfl A30 rfl (xi_in (by decide) (by rw [hy30]; decide)) s33 (fun hh33 eh33 => ?_)
              have K34 := xk_pa K (xk_wa rfl) xD_140 hy33 ry33 eh33
              refine xi_iload_n (pc' := 12) (x := (-6)) kc_12_11 rfl rfl ?_
              refine xi_ireturn kc_12_12 mr_12 rfl ?_
              show xw J ov (d + 2) 61 (150, [(0, .ref 115), (1, .int x1), (2, .int x2), (3, .int x3), (4, .int x4), (5, .int x5), (6, .int x6)], [.int (-6)], hh33) _
              refine xi_ireturn kc_61_150 mr_61 rfl ?_
              have zcm6 : ((-6) : Int32).toInt = (-6) := by decide
              exact kk (-6) hh33 (by omega) K34
            · refine xi_cmf (pc' := 129) kc_61_126 rfl (xc_gt_f (X := x5.toInt) (Y := 600) rfl (by decide) (by omega)) ?_
              refine xi_iload_n (pc' := 130) (x := x3) kc_61_129 rfl rfl ?_
              refine xi_bipush (pc' := 132) (v := 50) kc_61_130 rfl rfl ?_
              by_cases c35 : 50 < x3.toInt
              · refine xi_cmt (pc' := 144) kc_61_132 rfl (xc_gt_t (X := x3.toInt) (Y := 50) rfl (by decide) (by omega)) ?_
                refine xi_aload_n (pc' := 145) (x := 115) kc_61_144 rfl rfl ?_
                refine xi_bipush (pc' := 147) (v := (-6)) kc_61_145 rfl rfl ?_
                refine xi_virtual (mj := 12) (as := [.int (-6)]) (st1 := []) (lv0 := [(0, .ref 115), (1, .int (-6))]) kc_61_147 rfl rfl rfl rfl rfl A14 (Nat.le_of_ble_eq_true rfl) (hJ _ _ _ _ (by decide)) (xm_le ml_12 rfl) rfl ?_
                refine xi_aload_n (pc' := 1) (x := 115) kc_12_0 rfl rfl ?_
                refine xi_getfield (pc' := 4) (v := .ref 140) kc_12_1 rfl rfl rfl A14 rfl ?_
                refine xi_iload_n (pc' := 5) (x := (-6)) kc_12_4 rfl rfl ?_
                refine xi_ineg (pc' := 6) (v := 6) kc_12_5 rfl rfl ?_
                refine xi_dup2 (pc' := 7) kc_12_6 rfl ⟨rfl, rfl⟩ ?_
                refine xcps4 (xk_arr K.1 xD_140) (fun y36 A36 hy36 ry36 => ?_)
                refine xcps4 (xj_get hy36 ry36 (i := 6) (by decide) (by decide)) (fun v37 ev37 bv37 dv37 => ?_)
                refine xi_iaload (pc' := 8) (v := v37) kc_12_7 rfl A36 (by decide) rfl (xi_in (by decide) (by rw [hy36]; decide)) ev37 ?_
                refine xi_iconst (pc' := 9) (v := 1) kc_12_8 rfl rfl ?_
                refine xcps2 (α := Int32) ((v37 : Int32) + 1) (fun v38 ev38 => ?_)
                have rv38 := xc_rng v38
                refine xi_iadd (pc' := 10) (v := v38) kc_12_9 rfl ev38 ?_
                refine xcps4 (xj_set (v := v38) hy36 ry36 6 (by first | omega | decide) (by first | omega | decide)) (fun y39 s39 hy39 ry39 => ?_)
                refine xi_iastore (pc' := 11) (x' := y39) kc_12_10 rfl A36 rfl (xi_in (by decide) (by rw [hy36]; decide)) s39 (fun hh39 eh39 => ?_)
                have K40 := xk_pa K (xk_wa rfl) xD_140 hy39 ry39 eh39
                refine xi_iload_n (pc' := 12) (x := (-6)) kc_12_11 rfl rfl ?_
                refine xi_ireturn kc_12_12 mr_12 rfl ?_
                show xw J ov (d + 2) 61 (150, [(0, .ref 115), (1, .int x1), (2, .int x2), (3, .int x3), (4, .int x4), (5, .int x5), (6, .int x6)], [.int (-6)], hh39) _
                refine xi_ireturn kc_61_150 mr_61 rfl ?_
                have zcm6 : ((-6) : Int32).toInt = (-6) := by decide
                exact kk (-6) hh39 (by omega) K40
              · refine xi_cmf (pc' := 135) kc_61_132 rfl (xc_gt_f (X := x3.toInt) (Y := 50) rfl (by decide) (by omega)) ?_
                refine xi_aload_n (pc' := 136) (x := 115) kc_61_135 rfl rfl ?_
                refine xi_getfield (pc' := 139) (v := .int u8) kc_61_136 rfl rfl rfl A14 rfl ?_
                refine xi_bipush (pc' := 141) (v := 20) kc_61_139 rfl rfl ?_
                by_cases c41 : u8.toInt = 20
                · refine xi_cmf (pc' := 144) kc_61_141 rfl (xc_ne_f (X := u8.toInt) (Y := 20) rfl (by decide) (by omega)) ?_
                  refine xi_aload_n (pc' := 145) (x := 115) kc_61_144 rfl rfl ?_
                  refine xi_bipush (pc' := 147) (v := (-6)) kc_61_145 rfl rfl ?_
                  refine xi_virtual (mj := 12) (as := [.int (-6)]) (st1 := []) (lv0 := [(0, .ref 115), (1, .int (-6))]) kc_61_147 rfl rfl rfl rfl rfl A14 (Nat.le_of_ble_eq_true rfl) (hJ _ _ _ _ (by decide)) (xm_le ml_12 rfl) rfl ?_
                  refine xi_aload_n (pc' := 1) (x := 115) kc_12_0 rfl rfl ?_
                  refine xi_getfield (pc' := 4) (v := .ref 140) kc_12_1 rfl rfl rfl A14 rfl ?_
                  refine xi_iload_n (pc' := 5) (x := (-6)) kc_12_4 rfl rfl ?_
                  refine xi_ineg (pc' := 6) (v := 6) kc_12_5 rfl rfl ?_
                  refine xi_dup2 (pc' := 7) kc_12_6 rfl ⟨rfl, rfl⟩ ?_
                  refine xcps4 (xk_arr K.1 xD_140) (fun y42 A42 hy42 ry42 => ?_)
                  refine xcps4 (xj_get hy42 ry42 (i := 6) (by decide) (by decide)) (fun v43 ev43 bv43 dv43 => ?_)
                  refine xi_iaload (pc' := 8) (v := v43) kc_12_7 rfl A42 (by decide) rfl (xi_in (by decide) (by rw [hy42]; decide)) ev43 ?_
                  refine xi_iconst (pc' := 9) (v := 1) kc_12_8 rfl rfl ?_
                  refine xcps2 (α := Int32) ((v43 : Int32) + 1) (fun v44 ev44 => ?_)
                  have rv44 := xc_rng v44
                  refine xi_iadd (pc' := 10) (v := v44) kc_12_9 rfl ev44 ?_
                  refine xcps4 (xj_set (v := v44) hy42 ry42 6 (by first | omega | decide) (by first | omega | decide)) (fun y45 s45 hy45 ry45 => ?_)
                  refine xi_iastore (pc' := 11) (x' := y45) kc_12_10 rfl A42 rfl (xi_in (by decide) (by rw [hy42]; decide)) s45 (fun hh45 eh45 => ?_)
                  have K46 := xk_pa K (xk_wa rfl) xD_140 hy45 ry45 eh45
                  refine xi_iload_n (pc' := 12) (x := (-6)) kc_12_11 rfl rfl ?_
                  refine xi_ireturn kc_12_12 mr_12 rfl ?_
                  show xw J ov (d + 2) 61 (150, [(0, .ref 115), (1, .int x1), (2, .int x2), (3, .int x3), (4, .int x4), (5, .int x5), (6, .int x6)], [.int (-6)], hh45) _
                  refine xi_ireturn kc_61_150 mr_61 rfl ?_
                  have zcm6 : ((-6) : Int32).toInt = (-6) := by decide
                  exact kk (-6) hh45 (by omega) K46
                · refine xi_cmt (pc' := 151) kc_61_141 rfl (xc_ne_t (X := u8.toInt) (Y := 20) rfl (by decide) (by omega)) ?_
                  refine xi_aload_n (pc' := 152) (x := 115) kc_61_151 rfl rfl ?_
                  refine xi_getfield (pc' := 155) (v := .ref 143) kc_61_152 rfl rfl rfl A14 rfl ?_
                  refine xi_aload_n (pc' := 156) (x := 115) kc_61_155 rfl rfl ?_
                  refine xi_getfield (pc' := 159) (v := .int u8) kc_61_156 rfl rfl rfl A14 rfl ?_
                  refine xi_iload_n (pc' := 160) (x := x1) kc_61_159 rfl rfl ?_
                  refine xcps4 (xk_arr K.1 xD_143) (fun y47 A47 hy47 ry47 => ?_)
                  refine xcps4 (xj_set (v := x1) hy47 ry47 u8 (by first | omega | decide) (by first | omega | decide)) (fun y48 s48 hy48 ry48 => ?_)
                  refine xi_iastore (pc' := 161) (x' := y48) kc_61_160 rfl A47 rfl (xi_in (by omega) (by rw [hy47]; omega)) s48 (fun hh48 eh48 => ?_)
                  have K49 := xk_pa K (xk_wa rfl) xD_143 hy48 ry48 eh48
                  refine xi_aload_n (pc' := 162) (x := 115) kc_61_161 rfl rfl ?_
                  have A50 := ((eh48.2.1 115 (by decide)).trans A14)
                  refine xi_getfield (pc' := 165) (v := .ref 144) kc_61_162 rfl rfl rfl A50 rfl ?_
                  refine xi_aload_n (pc' := 166) (x := 115) kc_61_165 rfl rfl ?_
                  refine xi_getfield (pc' := 169) (v := .int u8) kc_61_166 rfl rfl rfl A50 rfl ?_
                  refine xi_iload_n (pc' := 170) (x := x2) kc_61_169 rfl rfl ?_
                  refine xcps4 (xk_arr K49.1 xD_144) (fun y51 A51 hy51 ry51 => ?_)
                  refine xcps4 (xj_set (v := x2) hy51 ry51 u8 (by first | omega | decide) (by first | omega | decide)) (fun y52 s52 hy52 ry52 => ?_)
                  refine xi_iastore (pc' := 171) (x' := y52) kc_61_170 rfl A51 rfl (xi_in (by omega) (by rw [hy51]; omega)) s52 (fun hh52 eh52 => ?_)
                  have K53 := xk_pa K49 (xk_wa rfl) xD_144 hy52 ry52 eh52
                  refine xi_aload_n (pc' := 172) (x := 115) kc_61_171 rfl rfl ?_
                  have A54 := ((eh52.2.1 115 (by decide)).trans A50)
                  refine xi_getfield (pc' := 175) (v := .ref 145) kc_61_172 rfl rfl rfl A54 rfl ?_
                  refine xi_aload_n (pc' := 176) (x := 115) kc_61_175 rfl rfl ?_
                  refine xi_getfield (pc' := 179) (v := .int u8) kc_61_176 rfl rfl rfl A54 rfl ?_
                  refine xi_iload_n (pc' := 180) (x := x3) kc_61_179 rfl rfl ?_
                  refine xcps4 (xk_arr K53.1 xD_145) (fun y55 A55 hy55 ry55 => ?_)
                  refine xcps4 (xj_set (v := x3) hy55 ry55 u8 (by first | omega | decide) (by first | omega | decide)) (fun y56 s56 hy56 ry56 => ?_)
                  refine xi_iastore (pc' := 181) (x' := y56) kc_61_180 rfl A55 rfl (xi_in (by omega) (by rw [hy55]; omega)) s56 (fun hh56 eh56 => ?_)
                  have K57 := xk_pa K53 (xk_wa rfl) xD_145 hy56 ry56 eh56
                  refine xi_aload_n (pc' := 182) (x := 115) kc_61_181 rfl rfl ?_
                  have A58 := ((eh56.2.1 115 (by decide)).trans A54)
                  refine xi_getfield (pc' := 185) (v := .ref 146) kc_61_182 rfl rfl rfl A58 rfl ?_
                  refine xi_aload_n (pc' := 186) (x := 115) kc_61_185 rfl rfl ?_
                  refine xi_getfield (pc' := 189) (v := .int u8) kc_61_186 rfl rfl rfl A58 rfl ?_
                  refine xi_iload (pc' := 191) (x := x4) kc_61_189 rfl rfl ?_
                  have t59 : 0 ≤ x4.toInt ∧ x4.toInt ≤ 600 := by omega
                  refine xcps4 (xk_arr K57.1 xD_146) (fun y60 A60 hy60 ry60 => ?_)
                  refine xcps4 (xj_set (v := x4) hy60 ry60 u8 (by first | omega | decide) (by first | omega | decide)) (fun y61 s61 hy61 ry61 => ?_)
                  refine xi_iastore (pc' := 192) (x' := y61) kc_61_191 rfl A60 rfl (xi_in (by omega) (by rw [hy60]; omega)) s61 (fun hh61 eh61 => ?_)
                  have K62 := xk_pa K57 (xk_wa rfl) xD_146 hy61 ry61 eh61
                  refine xi_aload_n (pc' := 193) (x := 115) kc_61_192 rfl rfl ?_
                  have A63 := ((eh61.2.1 115 (by decide)).trans A58)
                  refine xi_getfield (pc' := 196) (v := .ref 147) kc_61_193 rfl rfl rfl A63 rfl ?_
                  refine xi_aload_n (pc' := 197) (x := 115) kc_61_196 rfl rfl ?_
                  refine xi_getfield (pc' := 200) (v := .int u8) kc_61_197 rfl rfl rfl A63 rfl ?_
                  refine xi_iload (pc' := 202) (x := x5) kc_61_200 rfl rfl ?_
                  have t64 : 0 ≤ x5.toInt ∧ x5.toInt ≤ 600 := by omega
                  refine xcps4 (xk_arr K62.1 xD_147) (fun y65 A65 hy65 ry65 => ?_)
                  refine xcps4 (xj_set (v := x5) hy65 ry65 u8 (by first | omega | decide) (by first | omega | decide)) (fun y66 s66 hy66 ry66 => ?_)
                  refine xi_iastore (pc' := 203) (x' := y66) kc_61_202 rfl A65 rfl (xi_in (by omega) (by rw [hy65]; omega)) s66 (fun hh66 eh66 => ?_)
                  have K67 := xk_pa K62 (xk_wa rfl) xD_147 hy66 ry66 eh66
                  refine xi_aload_n (pc' := 204) (x := 115) kc_61_203 rfl rfl ?_
                  refine xi_dup (pc' := 205) kc_61_204 rfl rfl ?_
                  have A68 := ((eh66.2.1 115 (by decide)).trans A63)
                  refine xi_getfield (pc' := 208) (v := .int u8) kc_61_205 rfl rfl rfl A68 rfl ?_
                  refine xi_iconst (pc' := 209) (v := 1) kc_61_208 rfl rfl ?_
                  refine xcps2 (α := Int32) (u8 + 1) (fun v69 ev69 => ?_)
                  have zv69 : v69.toInt = (u8.toInt + 1) := by rw [← ev69]; exact (xz_add (X := u8.toInt) (Y := 1) rfl (by decide) (by omega) (by omega)).trans (by omega)
                  refine xi_iadd (pc' := 210) (v := v69) kc_61_209 rfl ev69 ?_
                  refine xi_putfield (pc' := 213) (fs' := [.int u1, .int u2, .ref 116, .ref 117, .ref 118, .ref 119, .ref 120, .ref 121, .ref 122, .ref 123, .ref 124, .ref 125, .ref 126, .ref 127, .ref 128, .ref 129, .int u3, .ref 130, .int u4, .ref 131, .ref 132, .ref 133, .ref 134, .int u5, .ref 135, .ref 136, .ref 137, .ref 138, .ref 139, .ref 140, .ref 141, .ref 142, .int u6, .int u7, .int v69, .ref 143, .ref 144, .ref 145, .ref 146, .ref 147, .ref 148, .int u9, .ref 149, .ref 150, .ref 151, .int u10, .ref 152, .ref 153, .ref 154, .ref 155, .ref 156, .ref 157, .ref 158, .ref 159, .int u11, .ref 160, .int u12, .ref 161, .ref 162, .ref 163, .ref 164, .int u13, .ref 165, .ref 166]) kc_61_210 rfl rfl rfl A68 rfl rfl rfl (Nat.le_of_ble_eq_true rfl) rfl (fun hh71 eh70 => ?_)
                  have K72 := xk_pf (k := 34) (v := v69) K67 (xk_wf rfl) xD_115 A68 rfl (by first | omega | decide) (by first | omega | decide) eh70 rfl
                  refine xi_aload_n (pc' := 214) (x := 115) kc_61_213 rfl rfl ?_
                  refine xi_getfield (pc' := 217) (v := .int v69) kc_61_214 rfl rfl rfl eh70.1 rfl ?_
                  refine xi_iconst (pc' := 218) (v := 1) kc_61_217 rfl rfl ?_
                  refine xcps2 (α := Int32) (v69 - 1) (fun v73 ev73 => ?_)
                  have zv73 : v73.toInt = u8.toInt := by rw [← ev73]; exact (xz_sub (X := (u8.toInt + 1)) (Y := 1) zv69 (by decide) (by omega) (by omega)).trans (by omega)
                  refine xi_isub (pc' := 219) (v := v73) kc_61_218 rfl ev73 ?_
                  refine xi_ireturn kc_61_219 mr_61 rfl ?_
                  exact kk v73 hh71 (by omega) K72
          · refine xi_cmf (pc' := 114) kc_61_111 rfl (xc_gt_f (X := x5.toInt) (Y := x4.toInt) rfl rfl (by omega)) ?_
            refine xi_aload_n (pc' := 115) (x := 115) kc_61_114 rfl rfl ?_
            refine xi_bipush (pc' := 117) (v := (-4)) kc_61_115 rfl rfl ?_
            refine xi_virtual (mj := 12) (as := [.int (-4)]) (st1 := []) (lv0 := [(0, .ref 115), (1, .int (-4))]) kc_61_117 rfl rfl rfl rfl rfl A14 (Nat.le_of_ble_eq_true rfl) (hJ _ _ _ _ (by decide)) (xm_le ml_12 rfl) rfl ?_
            refine xi_aload_n (pc' := 1) (x := 115) kc_12_0 rfl rfl ?_
            refine xi_getfield (pc' := 4) (v := .ref 140) kc_12_1 rfl rfl rfl A14 rfl ?_
            refine xi_iload_n (pc' := 5) (x := (-4)) kc_12_4 rfl rfl ?_
            refine xi_ineg (pc' := 6) (v := 4) kc_12_5 rfl rfl ?_
            refine xi_dup2 (pc' := 7) kc_12_6 rfl ⟨rfl, rfl⟩ ?_
            refine xcps4 (xk_arr K.1 xD_140) (fun y74 A74 hy74 ry74 => ?_)
            refine xcps4 (xj_get hy74 ry74 (i := 4) (by decide) (by decide)) (fun v75 ev75 bv75 dv75 => ?_)
            refine xi_iaload (pc' := 8) (v := v75) kc_12_7 rfl A74 (by decide) rfl (xi_in (by decide) (by rw [hy74]; decide)) ev75 ?_
            refine xi_iconst (pc' := 9) (v := 1) kc_12_8 rfl rfl ?_
            refine xcps2 (α := Int32) ((v75 : Int32) + 1) (fun v76 ev76 => ?_)
            have rv76 := xc_rng v76
            refine xi_iadd (pc' := 10) (v := v76) kc_12_9 rfl ev76 ?_
            refine xcps4 (xj_set (v := v76) hy74 ry74 4 (by first | omega | decide) (by first | omega | decide)) (fun y77 s77 hy77 ry77 => ?_)
            refine xi_iastore (pc' := 11) (x' := y77) kc_12_10 rfl A74 rfl (xi_in (by decide) (by rw [hy74]; decide)) s77 (fun hh77 eh77 => ?_)
            have K78 := xk_pa K (xk_wa rfl) xD_140 hy77 ry77 eh77
            refine xi_iload_n (pc' := 12) (x := (-4)) kc_12_11 rfl rfl ?_
            refine xi_ireturn kc_12_12 mr_12 rfl ?_
            show xw J ov (d + 2) 61 (120, [(0, .ref 115), (1, .int x1), (2, .int x2), (3, .int x3), (4, .int x4), (5, .int x5), (6, .int x6)], [.int (-4)], hh77) _
            refine xi_ireturn kc_61_120 mr_61 rfl ?_
            have zcm4 : ((-4) : Int32).toInt = (-4) := by decide
            exact kk (-4) hh77 (by omega) K78
    · refine xi_cmf (pc' := 46) kc_61_43 rfl (xc_ge_f (X := x6.toInt) (Y := u8.toInt) rfl rfl (by omega)) ?_
      refine xi_aload_n (pc' := 47) (x := 115) kc_61_46 rfl rfl ?_
      refine xi_getfield (pc' := 50) (v := .ref 143) kc_61_47 rfl rfl rfl A14 rfl ?_
      refine xi_iload (pc' := 52) (x := x6) kc_61_50 rfl rfl ?_
      refine xcps4 (xk_arr K.1 xD_143) (fun y79 A79 hy79 ry79 => ?_)
      refine xcps4 (xj_get hy79 ry79 (i := x6) (by omega) (by omega)) (fun v80 ev80 bv80 dv80 => ?_)
      refine xi_iaload (pc' := 53) (v := v80) kc_61_52 rfl A79 (by decide) rfl (xi_in (by omega) (by rw [hy79]; omega)) ev80 ?_
      refine xi_iload_n (pc' := 54) (x := x1) kc_61_53 rfl rfl ?_
      by_cases c81 : v80.toInt = x1.toInt
      · refine xi_cmf (pc' := 57) kc_61_54 rfl (xc_ne_f (X := v80.toInt) (Y := x1.toInt) rfl rfl (by omega)) ?_
        refine xi_iload (pc' := 59) (x := x4) kc_61_57 rfl rfl ?_
        refine xi_aload_n (pc' := 60) (x := 115) kc_61_59 rfl rfl ?_
        refine xi_getfield (pc' := 63) (v := .ref 147) kc_61_60 rfl rfl rfl A14 rfl ?_
        refine xi_iload (pc' := 65) (x := x6) kc_61_63 rfl rfl ?_
        refine xcps4 (xk_arr K.1 xD_147) (fun y82 A82 hy82 ry82 => ?_)
        refine xcps4 (xj_get hy82 ry82 (i := x6) (by omega) (by omega)) (fun v83 ev83 bv83 dv83 => ?_)
        refine xi_iaload (pc' := 66) (v := v83) kc_61_65 rfl A82 (by decide) rfl (xi_in (by omega) (by rw [hy82]; omega)) ev83 ?_
        by_cases c84 : v83.toInt ≤ x4.toInt
        · refine xi_cmt (pc' := 88) kc_61_66 rfl (xc_ge_t (X := x4.toInt) (Y := v83.toInt) rfl rfl (by omega)) ?_
          refine xcps2 (α := Int32) (x6 + 1) (fun v85 ev85 => ?_)
          have zv85 : v85.toInt = (x6.toInt + 1) := by rw [← ev85]; exact (xz_add (X := x6.toInt) (Y := 1) rfl (by decide) (by omega) (by omega)).trans (by omega)
          refine xi_iinc (pc' := 91) (x := x6) (v := v85) (lv' := [(6, .int v85), (0, .ref 115), (1, .int x1), (2, .int x2), (3, .int x3), (4, .int x4), (5, .int x5)]) kc_61_88 rfl rfl ev85 rfl (xm_lt ml_61 rfl) ?_
          refine xi_goto (pc' := 37) kc_61_91 rfl ?_
          refine xw_lv (b := [(0, .ref 115), (1, .int x1), (2, .int x2), (3, .int x3), (4, .int x4), (5, .int x5), (6, .int v85)]) (lvS_cons (lvS_cons (lvS_cons (lvS_cons (lvS_cons (lvS_cons (lvS_cons (lvS_nil (show ([6, 0, 1, 2, 3, 4, 5] : List Nat).Nodup by decide)) rfl) rfl) rfl) rfl) rfl) rfl) rfl) ?_
          exact i0 x1 x2 x3 x4 x5 v85 h (by omega) (by omega) (by omega) K (by omega)
        · refine xi_cmf (pc' := 69) kc_61_66 rfl (xc_ge_f (X := x4.toInt) (Y := v83.toInt) rfl rfl (by omega)) ?_
          refine xi_iload (pc' := 71) (x := x5) kc_61_69 rfl rfl ?_
          refine xi_aload_n (pc' := 72) (x := 115) kc_61_71 rfl rfl ?_
          refine xi_getfield (pc' := 75) (v := .ref 146) kc_61_72 rfl rfl rfl A14 rfl ?_
          refine xi_iload (pc' := 77) (x := x6) kc_61_75 rfl rfl ?_
          refine xcps4 (xk_arr K.1 xD_146) (fun y86 A86 hy86 ry86 => ?_)
          refine xcps4 (xj_get hy86 ry86 (i := x6) (by omega) (by omega)) (fun v87 ev87 bv87 dv87 => ?_)
          refine xi_iaload (pc' := 78) (v := v87) kc_61_77 rfl A86 (by decide) rfl (xi_in (by omega) (by rw [hy86]; omega)) ev87 ?_
          by_cases c88 : x5.toInt ≤ v87.toInt
          · refine xi_cmt (pc' := 88) kc_61_78 rfl (xc_le_t (X := x5.toInt) (Y := v87.toInt) rfl rfl (by omega)) ?_
            refine xcps2 (α := Int32) (x6 + 1) (fun v89 ev89 => ?_)
            have zv89 : v89.toInt = (x6.toInt + 1) := by rw [← ev89]; exact (xz_add (X := x6.toInt) (Y := 1) rfl (by decide) (by omega) (by omega)).trans (by omega)
            refine xi_iinc (pc' := 91) (x := x6) (v := v89) (lv' := [(6, .int v89), (0, .ref 115), (1, .int x1), (2, .int x2), (3, .int x3), (4, .int x4), (5, .int x5)]) kc_61_88 rfl rfl ev89 rfl (xm_lt ml_61 rfl) ?_
            refine xi_goto (pc' := 37) kc_61_91 rfl ?_
            refine xw_lv (b := [(0, .ref 115), (1, .int x1), (2, .int x2), (3, .int x3), (4, .int x4), (5, .int x5), (6, .int v89)]) (lvS_cons (lvS_cons (lvS_cons (lvS_cons (lvS_cons (lvS_cons (lvS_cons (lvS_nil (show ([6, 0, 1, 2, 3, 4, 5] : List Nat).Nodup by decide)) rfl) rfl) rfl) rfl) rfl) rfl) rfl) ?_
            exact i0 x1 x2 x3 x4 x5 v89 h (by omega) (by omega) (by omega) K (by omega)
          · refine xi_cmf (pc' := 81) kc_61_78 rfl (xc_le_f (X := x5.toInt) (Y := v87.toInt) rfl rfl (by omega)) ?_
            refine xi_aload_n (pc' := 82) (x := 115) kc_61_81 rfl rfl ?_
            refine xi_bipush (pc' := 84) (v := (-3)) kc_61_82 rfl rfl ?_
            refine xi_virtual (mj := 12) (as := [.int (-3)]) (st1 := []) (lv0 := [(0, .ref 115), (1, .int (-3))]) kc_61_84 rfl rfl rfl rfl rfl A14 (Nat.le_of_ble_eq_true rfl) (hJ _ _ _ _ (by decide)) (xm_le ml_12 rfl) rfl ?_
            refine xi_aload_n (pc' := 1) (x := 115) kc_12_0 rfl rfl ?_
            refine xi_getfield (pc' := 4) (v := .ref 140) kc_12_1 rfl rfl rfl A14 rfl ?_
            refine xi_iload_n (pc' := 5) (x := (-3)) kc_12_4 rfl rfl ?_
            refine xi_ineg (pc' := 6) (v := 3) kc_12_5 rfl rfl ?_
            refine xi_dup2 (pc' := 7) kc_12_6 rfl ⟨rfl, rfl⟩ ?_
            refine xcps4 (xk_arr K.1 xD_140) (fun y90 A90 hy90 ry90 => ?_)
            refine xcps4 (xj_get hy90 ry90 (i := 3) (by decide) (by decide)) (fun v91 ev91 bv91 dv91 => ?_)
            refine xi_iaload (pc' := 8) (v := v91) kc_12_7 rfl A90 (by decide) rfl (xi_in (by decide) (by rw [hy90]; decide)) ev91 ?_
            refine xi_iconst (pc' := 9) (v := 1) kc_12_8 rfl rfl ?_
            refine xcps2 (α := Int32) ((v91 : Int32) + 1) (fun v92 ev92 => ?_)
            have rv92 := xc_rng v92
            refine xi_iadd (pc' := 10) (v := v92) kc_12_9 rfl ev92 ?_
            refine xcps4 (xj_set (v := v92) hy90 ry90 3 (by first | omega | decide) (by first | omega | decide)) (fun y93 s93 hy93 ry93 => ?_)
            refine xi_iastore (pc' := 11) (x' := y93) kc_12_10 rfl A90 rfl (xi_in (by decide) (by rw [hy90]; decide)) s93 (fun hh93 eh93 => ?_)
            have K94 := xk_pa K (xk_wa rfl) xD_140 hy93 ry93 eh93
            refine xi_iload_n (pc' := 12) (x := (-3)) kc_12_11 rfl rfl ?_
            refine xi_ireturn kc_12_12 mr_12 rfl ?_
            show xw J ov (d + 2) 61 (87, [(0, .ref 115), (1, .int x1), (2, .int x2), (3, .int x3), (4, .int x4), (5, .int x5), (6, .int x6)], [.int (-3)], hh93) _
            refine xi_ireturn kc_61_87 mr_61 rfl ?_
            have zcm3 : ((-3) : Int32).toInt = (-3) := by decide
            exact kk (-3) hh93 (by omega) K94
      · refine xi_cmt (pc' := 88) kc_61_54 rfl (xc_ne_t (X := v80.toInt) (Y := x1.toInt) rfl rfl (by omega)) ?_
        refine xcps2 (α := Int32) (x6 + 1) (fun v95 ev95 => ?_)
        have zv95 : v95.toInt = (x6.toInt + 1) := by rw [← ev95]; exact (xz_add (X := x6.toInt) (Y := 1) rfl (by decide) (by omega) (by omega)).trans (by omega)
        refine xi_iinc (pc' := 91) (x := x6) (v := v95) (lv' := [(6, .int v95), (0, .ref 115), (1, .int x1), (2, .int x2), (3, .int x3), (4, .int x4), (5, .int x5)]) kc_61_88 rfl rfl ev95 rfl (xm_lt ml_61 rfl) ?_
        refine xi_goto (pc' := 37) kc_61_91 rfl ?_
        refine xw_lv (b := [(0, .ref 115), (1, .int x1), (2, .int x2), (3, .int x3), (4, .int x4), (5, .int x5), (6, .int v95)]) (lvS_cons (lvS_cons (lvS_cons (lvS_cons (lvS_cons (lvS_cons (lvS_cons (lvS_nil (show ([6, 0, 1, 2, 3, 4, 5] : List Nat).Nodup by decide)) rfl) rfl) rfl) rfl) rfl) rfl) rfl) ?_
        exact i0 x1 x2 x3 x4 x5 v95 h (by omega) (by omega) (by omega) K (by omega)
set_option maxHeartbeats 4000000 in
theorem mt_61_0 {J : xe_J} {ov : List (List Int32)} (hJ : ∀ d mj as h, mj ≠ xe_loff → J d mj as h = none) (hov1 : ov[1]? = some [10, 0, 0, 0, 0, 0]) (hov2 : ov[2]? = some [99, 30, 50, 50, 1, 99999]) {d : Nat} {Q : Option Value → xe_H → Prop} {h : xe_H} {x1 : Int32} {x2 : Int32} {x3 : Int32} {x4 : Int32} {x5 : Int32} (T : xt h) (kk : (∀ (r : Int32) (h' : xe_H), ((-6) ≤ r.toInt ∧ r.toInt ≤ 19) → xk [(0, 9), (115, 1), (83, 0), (29, 0), (31, 0), (33, 0), (35, 0), (37, 0), (39, 0), (41, 0), (43, 0), (45, 0), (47, 0), (49, 0), (51, 0), (125, 0), (66, 8), (115, 18), (71, 0), (132, 0)] h h' → Q (some (.int r)) h')) : xw J ov (d + 2) 61 (0, [(0, .ref 115), (1, .int x1), (2, .int x2), (3, .int x3), (4, .int x4), (5, .int x5)], [], h) Q := by
  have K : xk [(0, 9), (115, 1), (83, 0), (29, 0), (31, 0), (33, 0), (35, 0), (37, 0), (39, 0), (41, 0), (43, 0), (45, 0), (47, 0), (49, 0), (51, 0), (125, 0), (66, 8), (115, 18), (71, 0), (132, 0)] h h := xk_re T
  have rx1 := xc_rng x1
  have rx2 := xc_rng x2
  have rx3 := xc_rng x3
  have rx4 := xc_rng x4
  have rx5 := xc_rng x5
  refine xi_aload_n (pc' := 1) (x := 115) kc_61_0 rfl rfl ?_
  refine xi_iconst (pc' := 2) (v := 0) kc_61_1 rfl rfl ?_
  refine xp_115 K.1 (fun u1 u2 u3 u4 u5 u6 u7 u8 u9 u10 u11 u12 u13 bu1 bu2 bu3 bu4 bu5 bu6 bu7 bu8 bu9 bu10 bu11 bu12 bu13 A14 => ?_)
  refine xi_putfield (pc' := 5) (fs' := [.int 0, .int u2, .ref 116, .ref 117, .ref 118, .ref 119, .ref 120, .ref 121, .ref 122, .ref 123, .ref 124, .ref 125, .ref 126, .ref 127, .ref 128, .ref 129, .int u3, .ref 130, .int u4, .ref 131, .ref 132, .ref 133, .ref 134, .int u5, .ref 135, .ref 136, .ref 137, .ref 138, .ref 139, .ref 140, .ref 141, .ref 142, .int u6, .int u7, .int u8, .ref 143, .ref 144, .ref 145, .ref 146, .ref 147, .ref 148, .int u9, .ref 149, .ref 150, .ref 151, .int u10, .ref 152, .ref 153, .ref 154, .ref 155, .ref 156, .ref 157, .ref 158, .ref 159, .int u11, .ref 160, .int u12, .ref 161, .ref 162, .ref 163, .ref 164, .int u13, .ref 165, .ref 166]) kc_61_2 rfl rfl rfl A14 rfl rfl rfl (Nat.le_of_ble_eq_true rfl) rfl (fun hh16 eh15 => ?_)
  have K17 := xk_pf (k := 0) (v := 0) K (xk_wf rfl) xD_115 A14 rfl (by first | omega | decide) (by first | omega | decide) eh15 rfl
  refine xi_iload_n (pc' := 6) (x := x1) kc_61_5 rfl rfl ?_
  refine xi_static (mj := 10) (as := [.int x1]) (st1 := []) (lv0 := [(0, .int x1)]) kc_61_6 rfl rfl (Nat.le_of_ble_eq_true rfl) rfl rfl (Nat.le_of_ble_eq_true rfl) (hJ _ _ _ _ (by decide)) (xm_le ml_10 rfl) rfl ?_
  refine xi_iload_n (pc' := 1) (x := x1) kc_10_0 rfl rfl ?_
  refine xi_iconst (pc' := 2) (v := 0) kc_10_1 rfl rfl ?_
  refine xi_iconst (pc' := 3) (v := 5) kc_10_2 rfl rfl ?_
  refine xi_static (mj := 11) (as := [.int x1, .int 0, .int 5]) (st1 := []) (lv0 := [(0, .int x1), (1, .int 0), (2, .int 5)]) kc_10_3 rfl rfl (Nat.le_of_ble_eq_true rfl) rfl rfl (Nat.le_of_ble_eq_true rfl) (hJ _ _ _ _ (by decide)) (xm_le ml_11 rfl) rfl ?_
  refine xi_iload_n (pc' := 1) (x := x1) kc_11_0 rfl rfl ?_
  refine xi_iload_n (pc' := 2) (x := 0) kc_11_1 rfl rfl ?_
  by_cases c18 : x1.toInt < 0
  · refine xi_cmt (pc' := 14) kc_11_2 rfl (xc_lt_t (X := x1.toInt) (Y := 0) rfl (by decide) (by omega)) ?_
    refine xi_iconst (pc' := 15) (v := 0) kc_11_14 rfl rfl ?_
    refine xi_ireturn kc_11_15 mr_11 rfl ?_
    show xw J ov (d + 1) 10 (6, [(0, .int x1)], [.int 0], hh16) _
    refine xi_ireturn kc_10_6 mr_10 rfl ?_
    show xw J ov (d + 2) 61 (9, [(0, .ref 115), (1, .int x1), (2, .int x2), (3, .int x3), (4, .int x4), (5, .int x5)], [.int 0], hh16) _
    refine xi_iff (pc' := 12) kc_61_9 rfl rfl ?_
    refine xi_aload_n (pc' := 13) (x := 115) kc_61_12 rfl rfl ?_
    refine xi_iconst (pc' := 14) (v := (-1)) kc_61_13 rfl rfl ?_
    refine xi_virtual (mj := 12) (as := [.int (-1)]) (st1 := []) (lv0 := [(0, .ref 115), (1, .int (-1))]) kc_61_14 rfl rfl rfl rfl rfl eh15.1 (Nat.le_of_ble_eq_true rfl) (hJ _ _ _ _ (by decide)) (xm_le ml_12 rfl) rfl ?_
    refine xi_aload_n (pc' := 1) (x := 115) kc_12_0 rfl rfl ?_
    refine xi_getfield (pc' := 4) (v := .ref 140) kc_12_1 rfl rfl rfl eh15.1 rfl ?_
    refine xi_iload_n (pc' := 5) (x := (-1)) kc_12_4 rfl rfl ?_
    refine xi_ineg (pc' := 6) (v := 1) kc_12_5 rfl rfl ?_
    refine xi_dup2 (pc' := 7) kc_12_6 rfl ⟨rfl, rfl⟩ ?_
    refine xcps4 (xk_arr K17.1 xD_140) (fun y19 A19 hy19 ry19 => ?_)
    refine xcps4 (xj_get hy19 ry19 (i := 1) (by decide) (by decide)) (fun v20 ev20 bv20 dv20 => ?_)
    refine xi_iaload (pc' := 8) (v := v20) kc_12_7 rfl A19 (by decide) rfl (xi_in (by decide) (by rw [hy19]; decide)) ev20 ?_
    refine xi_iconst (pc' := 9) (v := 1) kc_12_8 rfl rfl ?_
    refine xcps2 (α := Int32) ((v20 : Int32) + 1) (fun v21 ev21 => ?_)
    have rv21 := xc_rng v21
    refine xi_iadd (pc' := 10) (v := v21) kc_12_9 rfl ev21 ?_
    refine xcps4 (xj_set (v := v21) hy19 ry19 1 (by first | omega | decide) (by first | omega | decide)) (fun y22 s22 hy22 ry22 => ?_)
    refine xi_iastore (pc' := 11) (x' := y22) kc_12_10 rfl A19 rfl (xi_in (by decide) (by rw [hy19]; decide)) s22 (fun hh22 eh22 => ?_)
    have K23 := xk_pa K17 (xk_wa rfl) xD_140 hy22 ry22 eh22
    refine xi_iload_n (pc' := 12) (x := (-1)) kc_12_11 rfl rfl ?_
    refine xi_ireturn kc_12_12 mr_12 rfl ?_
    show xw J ov (d + 2) 61 (17, [(0, .ref 115), (1, .int x1), (2, .int x2), (3, .int x3), (4, .int x4), (5, .int x5)], [.int (-1)], hh22) _
    refine xi_ireturn kc_61_17 mr_61 rfl ?_
    have zcm1 : ((-1) : Int32).toInt = (-1) := by decide
    exact kk (-1) hh22 (by omega) K23
  · refine xi_cmf (pc' := 5) kc_11_2 rfl (xc_lt_f (X := x1.toInt) (Y := 0) rfl (by decide) (by omega)) ?_
    refine xi_iload_n (pc' := 6) (x := x1) kc_11_5 rfl rfl ?_
    refine xi_iload_n (pc' := 7) (x := 5) kc_11_6 rfl rfl ?_
    by_cases c24 : 5 < x1.toInt
    · refine xi_cmt (pc' := 14) kc_11_7 rfl (xc_gt_t (X := x1.toInt) (Y := 5) rfl (by decide) (by omega)) ?_
      refine xi_iconst (pc' := 15) (v := 0) kc_11_14 rfl rfl ?_
      refine xi_ireturn kc_11_15 mr_11 rfl ?_
      show xw J ov (d + 1) 10 (6, [(0, .int x1)], [.int 0], hh16) _
      refine xi_ireturn kc_10_6 mr_10 rfl ?_
      show xw J ov (d + 2) 61 (9, [(0, .ref 115), (1, .int x1), (2, .int x2), (3, .int x3), (4, .int x4), (5, .int x5)], [.int 0], hh16) _
      refine xi_iff (pc' := 12) kc_61_9 rfl rfl ?_
      refine xi_aload_n (pc' := 13) (x := 115) kc_61_12 rfl rfl ?_
      refine xi_iconst (pc' := 14) (v := (-1)) kc_61_13 rfl rfl ?_
      refine xi_virtual (mj := 12) (as := [.int (-1)]) (st1 := []) (lv0 := [(0, .ref 115), (1, .int (-1))]) kc_61_14 rfl rfl rfl rfl rfl eh15.1 (Nat.le_of_ble_eq_true rfl) (hJ _ _ _ _ (by decide)) (xm_le ml_12 rfl) rfl ?_
      refine xi_aload_n (pc' := 1) (x := 115) kc_12_0 rfl rfl ?_
      refine xi_getfield (pc' := 4) (v := .ref 140) kc_12_1 rfl rfl rfl eh15.1 rfl ?_
      refine xi_iload_n (pc' := 5) (x := (-1)) kc_12_4 rfl rfl ?_
      refine xi_ineg (pc' := 6) (v := 1) kc_12_5 rfl rfl ?_
      refine xi_dup2 (pc' := 7) kc_12_6 rfl ⟨rfl, rfl⟩ ?_
      refine xcps4 (xk_arr K17.1 xD_140) (fun y25 A25 hy25 ry25 => ?_)
      refine xcps4 (xj_get hy25 ry25 (i := 1) (by decide) (by decide)) (fun v26 ev26 bv26 dv26 => ?_)
      refine xi_iaload (pc' := 8) (v := v26) kc_12_7 rfl A25 (by decide) rfl (xi_in (by decide) (by rw [hy25]; decide)) ev26 ?_
      refine xi_iconst (pc' := 9) (v := 1) kc_12_8 rfl rfl ?_
      refine xcps2 (α := Int32) ((v26 : Int32) + 1) (fun v27 ev27 => ?_)
      have rv27 := xc_rng v27
      refine xi_iadd (pc' := 10) (v := v27) kc_12_9 rfl ev27 ?_
      refine xcps4 (xj_set (v := v27) hy25 ry25 1 (by first | omega | decide) (by first | omega | decide)) (fun y28 s28 hy28 ry28 => ?_)
      refine xi_iastore (pc' := 11) (x' := y28) kc_12_10 rfl A25 rfl (xi_in (by decide) (by rw [hy25]; decide)) s28 (fun hh28 eh28 => ?_)
      have K29 := xk_pa K17 (xk_wa rfl) xD_140 hy28 ry28 eh28
      refine xi_iload_n (pc' := 12) (x := (-1)) kc_12_11 rfl rfl ?_
      refine xi_ireturn kc_12_12 mr_12 rfl ?_
      show xw J ov (d + 2) 61 (17, [(0, .ref 115), (1, .int x1), (2, .int x2), (3, .int x3), (4, .int x4), (5, .int x5)], [.int (-1)], hh28) _
      refine xi_ireturn kc_61_17 mr_61 rfl ?_
      have zcm1 : ((-1) : Int32).toInt = (-1) := by decide
      exact kk (-1) hh28 (by omega) K29
    · refine xi_cmf (pc' := 10) kc_11_7 rfl (xc_gt_f (X := x1.toInt) (Y := 5) rfl (by decide) (by omega)) ?_
      refine xi_iconst (pc' := 11) (v := 1) kc_11_10 rfl rfl ?_
      refine xi_goto (pc' := 15) kc_11_11 rfl ?_
      refine xi_ireturn kc_11_15 mr_11 rfl ?_
      show xw J ov (d + 1) 10 (6, [(0, .int x1)], [.int 1], hh16) _
      refine xi_ireturn kc_10_6 mr_10 rfl ?_
      show xw J ov (d + 2) 61 (9, [(0, .ref 115), (1, .int x1), (2, .int x2), (3, .int x3), (4, .int x4), (5, .int x5)], [.int 1], hh16) _
      refine xi_ift (pc' := 18) kc_61_9 rfl rfl ?_
      refine xi_iload_n (pc' := 19) (x := x2) kc_61_18 rfl rfl ?_
      refine xi_iconst (pc' := 20) (v := 0) kc_61_19 rfl rfl ?_
      refine xi_iconst (pc' := 21) (v := 1) kc_61_20 rfl rfl ?_
      refine xi_static (mj := 11) (as := [.int x2, .int 0, .int 1]) (st1 := []) (lv0 := [(0, .int x2), (1, .int 0), (2, .int 1)]) kc_61_21 rfl rfl (Nat.le_of_ble_eq_true rfl) rfl rfl (Nat.le_of_ble_eq_true rfl) (hJ _ _ _ _ (by decide)) (xm_le ml_11 rfl) rfl ?_
      refine xi_iload_n (pc' := 1) (x := x2) kc_11_0 rfl rfl ?_
      refine xi_iload_n (pc' := 2) (x := 0) kc_11_1 rfl rfl ?_
      by_cases c30 : x2.toInt < 0
      · refine xi_cmt (pc' := 14) kc_11_2 rfl (xc_lt_t (X := x2.toInt) (Y := 0) rfl (by decide) (by omega)) ?_
        refine xi_iconst (pc' := 15) (v := 0) kc_11_14 rfl rfl ?_
        refine xi_ireturn kc_11_15 mr_11 rfl ?_
        show xw J ov (d + 2) 61 (24, [(0, .ref 115), (1, .int x1), (2, .int x2), (3, .int x3), (4, .int x4), (5, .int x5)], [.int 0], hh16) _
        refine xi_iff (pc' := 27) kc_61_24 rfl rfl ?_
        refine xi_aload_n (pc' := 28) (x := 115) kc_61_27 rfl rfl ?_
        refine xi_bipush (pc' := 30) (v := (-2)) kc_61_28 rfl rfl ?_
        refine xi_virtual (mj := 12) (as := [.int (-2)]) (st1 := []) (lv0 := [(0, .ref 115), (1, .int (-2))]) kc_61_30 rfl rfl rfl rfl rfl eh15.1 (Nat.le_of_ble_eq_true rfl) (hJ _ _ _ _ (by decide)) (xm_le ml_12 rfl) rfl ?_
        refine xi_aload_n (pc' := 1) (x := 115) kc_12_0 rfl rfl ?_
        refine xi_getfield (pc' := 4) (v := .ref 140) kc_12_1 rfl rfl rfl eh15.1 rfl ?_
        refine xi_iload_n (pc' := 5) (x := (-2)) kc_12_4 rfl rfl ?_
        refine xi_ineg (pc' := 6) (v := 2) kc_12_5 rfl rfl ?_
        refine xi_dup2 (pc' := 7) kc_12_6 rfl ⟨rfl, rfl⟩ ?_
        refine xcps4 (xk_arr K17.1 xD_140) (fun y31 A31 hy31 ry31 => ?_)
        refine xcps4 (xj_get hy31 ry31 (i := 2) (by decide) (by decide)) (fun v32 ev32 bv32 dv32 => ?_)
        refine xi_iaload (pc' := 8) (v := v32) kc_12_7 rfl A31 (by decide) rfl (xi_in (by decide) (by rw [hy31]; decide)) ev32 ?_
        refine xi_iconst (pc' := 9) (v := 1) kc_12_8 rfl rfl ?_
        refine xcps2 (α := Int32) ((v32 : Int32) + 1) (fun v33 ev33 => ?_)
        have rv33 := xc_rng v33
        refine xi_iadd (pc' := 10) (v := v33) kc_12_9 rfl ev33 ?_
        refine xcps4 (xj_set (v := v33) hy31 ry31 2 (by first | omega | decide) (by first | omega | decide)) (fun y34 s34 hy34 ry34 => ?_)
        refine xi_iastore (pc' := 11) (x' := y34) kc_12_10 rfl A31 rfl (xi_in (by decide) (by rw [hy31]; decide)) s34 (fun hh34 eh34 => ?_)
        have K35 := xk_pa K17 (xk_wa rfl) xD_140 hy34 ry34 eh34
        refine xi_iload_n (pc' := 12) (x := (-2)) kc_12_11 rfl rfl ?_
        refine xi_ireturn kc_12_12 mr_12 rfl ?_
        show xw J ov (d + 2) 61 (33, [(0, .ref 115), (1, .int x1), (2, .int x2), (3, .int x3), (4, .int x4), (5, .int x5)], [.int (-2)], hh34) _
        refine xi_ireturn kc_61_33 mr_61 rfl ?_
        have zcm2 : ((-2) : Int32).toInt = (-2) := by decide
        exact kk (-2) hh34 (by omega) K35
      · refine xi_cmf (pc' := 5) kc_11_2 rfl (xc_lt_f (X := x2.toInt) (Y := 0) rfl (by decide) (by omega)) ?_
        refine xi_iload_n (pc' := 6) (x := x2) kc_11_5 rfl rfl ?_
        refine xi_iload_n (pc' := 7) (x := 1) kc_11_6 rfl rfl ?_
        by_cases c36 : 1 < x2.toInt
        · refine xi_cmt (pc' := 14) kc_11_7 rfl (xc_gt_t (X := x2.toInt) (Y := 1) rfl (by decide) (by omega)) ?_
          refine xi_iconst (pc' := 15) (v := 0) kc_11_14 rfl rfl ?_
          refine xi_ireturn kc_11_15 mr_11 rfl ?_
          show xw J ov (d + 2) 61 (24, [(0, .ref 115), (1, .int x1), (2, .int x2), (3, .int x3), (4, .int x4), (5, .int x5)], [.int 0], hh16) _
          refine xi_iff (pc' := 27) kc_61_24 rfl rfl ?_
          refine xi_aload_n (pc' := 28) (x := 115) kc_61_27 rfl rfl ?_
          refine xi_bipush (pc' := 30) (v := (-2)) kc_61_28 rfl rfl ?_
          refine xi_virtual (mj := 12) (as := [.int (-2)]) (st1 := []) (lv0 := [(0, .ref 115), (1, .int (-2))]) kc_61_30 rfl rfl rfl rfl rfl eh15.1 (Nat.le_of_ble_eq_true rfl) (hJ _ _ _ _ (by decide)) (xm_le ml_12 rfl) rfl ?_
          refine xi_aload_n (pc' := 1) (x := 115) kc_12_0 rfl rfl ?_
          refine xi_getfield (pc' := 4) (v := .ref 140) kc_12_1 rfl rfl rfl eh15.1 rfl ?_
          refine xi_iload_n (pc' := 5) (x := (-2)) kc_12_4 rfl rfl ?_
          refine xi_ineg (pc' := 6) (v := 2) kc_12_5 rfl rfl ?_
          refine xi_dup2 (pc' := 7) kc_12_6 rfl ⟨rfl, rfl⟩ ?_
          refine xcps4 (xk_arr K17.1 xD_140) (fun y37 A37 hy37 ry37 => ?_)
          refine xcps4 (xj_get hy37 ry37 (i := 2) (by decide) (by decide)) (fun v38 ev38 bv38 dv38 => ?_)
          refine xi_iaload (pc' := 8) (v := v38) kc_12_7 rfl A37 (by decide) rfl (xi_in (by decide) (by rw [hy37]; decide)) ev38 ?_
          refine xi_iconst (pc' := 9) (v := 1) kc_12_8 rfl rfl ?_
          refine xcps2 (α := Int32) ((v38 : Int32) + 1) (fun v39 ev39 => ?_)
          have rv39 := xc_rng v39
          refine xi_iadd (pc' := 10) (v := v39) kc_12_9 rfl ev39 ?_
          refine xcps4 (xj_set (v := v39) hy37 ry37 2 (by first | omega | decide) (by first | omega | decide)) (fun y40 s40 hy40 ry40 => ?_)
          refine xi_iastore (pc' := 11) (x' := y40) kc_12_10 rfl A37 rfl (xi_in (by decide) (by rw [hy37]; decide)) s40 (fun hh40 eh40 => ?_)
          have K41 := xk_pa K17 (xk_wa rfl) xD_140 hy40 ry40 eh40
          refine xi_iload_n (pc' := 12) (x := (-2)) kc_12_11 rfl rfl ?_
          refine xi_ireturn kc_12_12 mr_12 rfl ?_
          show xw J ov (d + 2) 61 (33, [(0, .ref 115), (1, .int x1), (2, .int x2), (3, .int x3), (4, .int x4), (5, .int x5)], [.int (-2)], hh40) _
          refine xi_ireturn kc_61_33 mr_61 rfl ?_
          have zcm2 : ((-2) : Int32).toInt = (-2) := by decide
          exact kk (-2) hh40 (by omega) K41
        · refine xi_cmf (pc' := 10) kc_11_7 rfl (xc_gt_f (X := x2.toInt) (Y := 1) rfl (by decide) (by omega)) ?_
          refine xi_iconst (pc' := 11) (v := 1) kc_11_10 rfl rfl ?_
          refine xi_goto (pc' := 15) kc_11_11 rfl ?_
          refine xi_ireturn kc_11_15 mr_11 rfl ?_
          show xw J ov (d + 2) 61 (24, [(0, .ref 115), (1, .int x1), (2, .int x2), (3, .int x3), (4, .int x4), (5, .int x5)], [.int 1], hh16) _
          refine xi_ift (pc' := 34) kc_61_24 rfl rfl ?_
          refine xi_iconst (pc' := 35) (v := 0) kc_61_34 rfl rfl ?_
          refine xi_istore (pc' := 37) (lv' := [(6, .int 0), (0, .ref 115), (1, .int x1), (2, .int x2), (3, .int x3), (4, .int x4), (5, .int x5)]) kc_61_35 rfl rfl (xm_lt ml_61 rfl) ?_
          have zc0 : (0 : Int32).toInt = 0 := by decide
          refine xw_lv (b := [(0, .ref 115), (1, .int x1), (2, .int x2), (3, .int x3), (4, .int x4), (5, .int x5), (6, .int 0)]) (lvS_cons (lvS_cons (lvS_cons (lvS_cons (lvS_cons (lvS_cons (lvS_cons (lvS_nil (show ([6, 0, 1, 2, 3, 4, 5] : List Nat).Nodup by decide)) rfl) rfl) rfl) rfl) rfl) rfl) rfl) ?_
          exact (lp_61_0 hJ hov1 hov2 (d := d) (hb := hh16) (fun r9 h9 b9 K9 => kk r9 h9 b9 (xk_tr K17 K9 rfl)) 21) x1 x2 x3 x4 x5 0 hh16 (by omega) (by omega) (by omega) (xk_re K17.1) (by omega)
set_option maxHeartbeats 4000000 in
theorem lp_63_0 {J : xe_J} {ov : List (List Int32)} (hJ : ∀ d mj as h, mj ≠ xe_loff → J d mj as h = none) (hov1 : ov[1]? = some [10, 0, 0, 0, 0, 0]) (hov2 : ov[2]? = some [99, 30, 50, 50, 1, 99999]) {d : Nat} {Q : Option Value → xe_H → Prop} {hb : xe_H} (kk : (∀ (r : Int32) (h' : xe_H), xk [(0, 9), (115, 1), (83, 0), (29, 0), (31, 0), (33, 0), (35, 0), (37, 0), (39, 0), (41, 0), (43, 0), (45, 0), (47, 0), (49, 0), (51, 0), (125, 0), (66, 8), (115, 18), (71, 0), (132, 0)] hb h' → Q (some (.int r)) h')) : ∀ m : Nat, (∀ (x1 : Int32) (x3 : Int32) (w4 : Int64) (x6 : Int32) (x7 : Int32) (h : xe_H), (0 ≤ x1.toInt ∧ x1.toInt ≤ 5) → (0 ≤ x3.toInt ∧ x3.toInt ≤ 600) → (0 ≤ x7.toInt ∧ x7.toInt ≤ 6560) → xk [(0, 9), (115, 1), (83, 0), (29, 0), (31, 0), (33, 0), (35, 0), (37, 0), (39, 0), (41, 0), (43, 0), (45, 0), (47, 0), (49, 0), (51, 0), (125, 0), (66, 8), (115, 18), (71, 0), (132, 0)] hb h → (-14) * x7.toInt + 91853 < (m : Int) → xw J ov (d + 1) 63 (9, [(0, .ref 115), (1, .int x1), (3, .int x3), (4, .long w4), (6, .int x6), (7, .int x7)], [], h) Q) ∧ (∀ (x1 : Int32) (x3 : Int32) (w4 : Int64) (x6 : Int32) (x7 : Int32) (x8 : Int32) (h : xe_H), (0 ≤ x1.toInt ∧ x1.toInt ≤ 5) → (1 ≤ x3.toInt ∧ x3.toInt ≤ 600) → (0 ≤ x7.toInt ∧ x7.toInt ≤ 599) → (0 ≤ x8.toInt ∧ x8.toInt ≤ 12) → xk [(0, 9), (115, 1), (83, 0), (29, 0), (31, 0), (33, 0), (35, 0), (37, 0), (39, 0), (41, 0), (43, 0), (45, 0), (47, 0), (49, 0), (51, 0), (125, 0), (66, 8), (115, 18), (71, 0), (132, 0)] hb h → (-14) * x7.toInt + (-1) * x8.toInt + 91852 < (m : Int) → xw J ov (d + 1) 63 (18, [(0, .ref 115), (1, .int x1), (3, .int x3), (4, .long w4), (6, .int x6), (7, .int x7), (8, .int x8)], [], h) Q) := by
  intro m
  induction m with
  | zero =>
    refine ⟨?_, ?_⟩
    · intro x1 x3 w4 x6 x7 h b1 b3 b7 K hm; have rx6 := xc_rng x6; exfalso; omega
    · intro x1 x3 w4 x6 x7 x8 h b1 b3 b7 b8 K hm; have rx6 := xc_rng x6; exfalso; omega
  | succ m ih =>
    obtain ⟨i0, i1⟩ := ih
    refine ⟨?_, ?_⟩
    · intro x1 x3 w4 x6 x7 h b1 b3 b7 K hm
      have rx6 := xc_rng x6
      refine xi_iload (pc' := 11) (x := x7) kc_63_9 rfl rfl ?_
      refine xi_iload_n (pc' := 12) (x := x3) kc_63_11 rfl rfl ?_
      by_cases c1 : x3.toInt ≤ x7.toInt
      · refine xi_cmt (pc' := 70) kc_63_12 rfl (xc_ge_t (X := x7.toInt) (Y := x3.toInt) rfl rfl (by omega)) ?_
        refine xi_iload (pc' := 72) (x := x6) kc_63_70 rfl rfl ?_
        by_cases c2 : x6.toInt = 0
        · refine xi_iff (pc' := 75) kc_63_72 rfl (xc_ne_f (X := x6.toInt) (Y := 0) rfl (by decide) (by omega)) ?_
          refine xi_iconst (pc' := 76) (v := 0) kc_63_75 rfl rfl ?_
          refine xi_goto (pc' := 86) kc_63_76 rfl ?_
          refine xi_ireturn kc_63_86 mr_63 rfl ?_
          have zc0 : (0 : Int32).toInt = 0 := by decide
          exact kk 0 h K
        · refine xi_ift (pc' := 79) kc_63_72 rfl (xc_ne_t (X := x6.toInt) (Y := 0) rfl (by decide) (by omega)) ?_
          refine xi_lload (pc' := 81) (x := w4) kc_63_79 rfl rfl ?_
          refine xi_iload (pc' := 83) (x := x6) kc_63_81 rfl rfl ?_
          obtain ⟨v3, ev3⟩ : ∃ q, (x6 : Int32).toInt64 = q := ⟨_, rfl⟩
          have zv3 : v3 ≠ 0 := xj_l0 ev3 (by omega)
          refine xi_i2l (pc' := 84) (v := v3) kc_63_83 rfl ev3 ?_
          refine xcps2 (α := Int64) ((w4 : Int64) / v3) (fun v4 ev4 => ?_)
          refine xi_ldiv (pc' := 85) (v := v4) kc_63_84 rfl ev4 zv3 ?_
          obtain ⟨v5, ev5⟩ : ∃ q, (v4 : Int64).toInt32 = q := ⟨_, rfl⟩
          have rv5 := xc_rng v5
          refine xi_l2i (pc' := 86) (v := v5) kc_63_85 rfl ev5 ?_
          refine xi_ireturn kc_63_86 mr_63 rfl ?_
          exact kk v5 h K
      · refine xi_cmf (pc' := 15) kc_63_12 rfl (xc_ge_f (X := x7.toInt) (Y := x3.toInt) rfl rfl (by omega)) ?_
        refine xi_iconst (pc' := 16) (v := 0) kc_63_15 rfl rfl ?_
        refine xi_istore (pc' := 18) (lv' := [(8, .int 0), (0, .ref 115), (1, .int x1), (3, .int x3), (4, .long w4), (6, .int x6), (7, .int x7)]) kc_63_16 rfl rfl (xm_lt ml_63 rfl) ?_
        have zc0 : (0 : Int32).toInt = 0 := by decide
        refine xw_lv (b := [(0, .ref 115), (1, .int x1), (3, .int x3), (4, .long w4), (6, .int x6), (7, .int x7), (8, .int 0)]) (lvS_cons (lvS_cons (lvS_cons (lvS_cons (lvS_cons (lvS_cons (lvS_cons (lvS_nil (show ([8, 0, 1, 3, 4, 6, 7] : List Nat).Nodup by decide)) rfl) rfl) rfl) rfl) rfl) rfl) rfl) ?_
        exact i1 x1 x3 w4 x6 x7 0 h (by omega) (by omega) (by omega) (by omega) K (by omega)
    · intro x1 x3 w4 x6 x7 x8 h b1 b3 b7 b8 K hm
      have rx6 := xc_rng x6
      refine xi_iload (pc' := 20) (x := x8) kc_63_18 rfl rfl ?_
      refine xi_bipush (pc' := 22) (v := 12) kc_63_20 rfl rfl ?_
      by_cases c1 : 12 ≤ x8.toInt
      · refine xi_cmt (pc' := 64) kc_63_22 rfl (xc_ge_t (X := x8.toInt) (Y := 12) rfl (by decide) (by omega)) ?_
        refine xcps2 (α := Int32) (x7 + 1) (fun v2 ev2 => ?_)
        have zv2 : v2.toInt = (x7.toInt + 1) := by rw [← ev2]; exact (xz_add (X := x7.toInt) (Y := 1) rfl (by decide) (by omega) (by omega)).trans (by omega)
        refine xi_iinc (pc' := 67) (x := x7) (v := v2) (lv' := [(7, .int v2), (0, .ref 115), (1, .int x1), (3, .int x3), (4, .long w4), (6, .int x6), (8, .int x8)]) kc_63_64 rfl rfl ev2 rfl (xm_lt ml_63 rfl) ?_
        refine xi_goto (pc' := 9) kc_63_67 rfl ?_
        refine xw_lv (b := [(0, .ref 115), (1, .int x1), (3, .int x3), (4, .long w4), (6, .int x6), (7, .int v2)]) (lvS_cons (lvS_cons (lvS_cons (lvS_cons (lvS_cons (lvS_cons (lvS_nil (show ([7, 0, 1, 3, 4, 6, 8] : List Nat).Nodup by decide)) rfl) rfl) rfl) rfl) rfl) rfl) ?_
        exact i0 x1 x3 w4 x6 v2 h (by omega) (by omega) (by omega) K (by omega)
      · refine xi_cmf (pc' := 25) kc_63_22 rfl (xc_ge_f (X := x8.toInt) (Y := 12) rfl (by decide) (by omega)) ?_
        refine xi_aload_n (pc' := 26) (x := 115) kc_63_25 rfl rfl ?_
        refine xp_115 K.1 (fun u3 u4 u5 u6 u7 u8 u9 u10 u11 u12 u13 u14 u15 bu3 bu4 bu5 bu6 bu7 bu8 bu9 bu10 bu11 bu12 bu13 bu14 bu15 A16 => ?_)
        refine xi_getfield (pc' := 29) (v := .ref 125) kc_63_26 rfl rfl rfl A16 rfl ?_
        refine xi_iload (pc' := 31) (x := x8) kc_63_29 rfl rfl ?_
        refine xcps4 (xk_arr K.1 xD_125) (fun y17 A17 hy17 ry17 => ?_)
        refine xcps4 (xj_get hy17 ry17 (i := x8) (by omega) (by omega)) (fun v18 ev18 bv18 dv18 => ?_)
        refine xi_iaload (pc' := 32) (v := v18) kc_63_31 rfl A17 (by decide) rfl (xi_in (by omega) (by rw [hy17]; omega)) ev18 ?_
        refine xi_iload_n (pc' := 33) (x := x1) kc_63_32 rfl rfl ?_
        by_cases c19 : v18.toInt = x1.toInt
        · refine xi_cmf (pc' := 36) kc_63_33 rfl (xc_ne_f (X := v18.toInt) (Y := x1.toInt) rfl rfl (by omega)) ?_
          refine xi_lload (pc' := 38) (x := w4) kc_63_36 rfl rfl ?_
          refine xi_aload_n (pc' := 39) (x := 115) kc_63_38 rfl rfl ?_
          refine xi_getfield (pc' := 42) (v := .ref 130) kc_63_39 rfl rfl rfl A16 rfl ?_
          refine xi_bipush (pc' := 44) (v := 12) kc_63_42 rfl rfl ?_
          refine xi_iload (pc' := 46) (x := x7) kc_63_44 rfl rfl ?_
          refine xcps2 (α := Int32) (12 * x7) (fun v20 ev20 => ?_)
          have zv20 : v20.toInt = (12) * x7.toInt := by rw [← ev20]; exact (xz_mul (X := 12) (Y := x7.toInt) (by decide) rfl (by omega) (by omega)).trans (by omega)
          refine xi_imul (pc' := 47) (v := v20) kc_63_46 rfl ev20 ?_
          refine xi_iload (pc' := 49) (x := x8) kc_63_47 rfl rfl ?_
          refine xcps2 (α := Int32) (v20 + x8) (fun v21 ev21 => ?_)
          have zv21 : v21.toInt = ((12) * x7.toInt + x8.toInt) := by rw [← ev21]; exact (xz_add (X := (12) * x7.toInt) (Y := x8.toInt) zv20 rfl (by omega) (by omega)).trans (by omega)
          refine xi_iadd (pc' := 50) (v := v21) kc_63_49 rfl ev21 ?_
          refine xcps4 (xk_arr K.1 xD_130) (fun y22 A22 hy22 ry22 => ?_)
          refine xcps4 (xj_get hy22 ry22 (i := v21) (by rw [zv21]; omega) (by rw [zv21]; omega)) (fun v23 ev23 bv23 dv23 => ?_)
          refine xi_iaload (pc' := 51) (v := v23) kc_63_50 rfl A22 (by decide) rfl (xi_in (by rw [zv21]; omega) (by rw [hy22]; rw [zv21]; omega)) ev23 ?_
          obtain ⟨v24, ev24⟩ : ∃ q, (v23 : Int32).toInt64 = q := ⟨_, rfl⟩
          refine xi_i2l (pc' := 52) (v := v24) kc_63_51 rfl ev24 ?_
          refine xcps2 (α := Int64) ((w4 : Int64) + v24) (fun v25 ev25 => ?_)
          refine xi_ladd (pc' := 53) (v := v25) kc_63_52 rfl ev25 ?_
          refine xi_lstore (pc' := 55) (lv' := [(4, .long v25), (0, .ref 115), (1, .int x1), (3, .int x3), (6, .int x6), (7, .int x7), (8, .int x8)]) kc_63_53 rfl rfl (xm_lt ml_63 rfl) ?_
          refine xcps2 (α := Int32) ((x6 : Int32) + 1) (fun v26 ev26 => ?_)
          have rv26 := xc_rng v26
          refine xi_iinc (pc' := 58) (x := x6) (v := v26) (lv' := [(6, .int v26), (4, .long v25), (0, .ref 115), (1, .int x1), (3, .int x3), (7, .int x7), (8, .int x8)]) kc_63_55 rfl rfl ev26 rfl (xm_lt ml_63 rfl) ?_
          refine xcps2 (α := Int32) (x8 + 1) (fun v27 ev27 => ?_)
          have zv27 : v27.toInt = (x8.toInt + 1) := by rw [← ev27]; exact (xz_add (X := x8.toInt) (Y := 1) rfl (by decide) (by omega) (by omega)).trans (by omega)
          refine xi_iinc (pc' := 61) (x := x8) (v := v27) (lv' := [(8, .int v27), (6, .int v26), (4, .long v25), (0, .ref 115), (1, .int x1), (3, .int x3), (7, .int x7)]) kc_63_58 rfl rfl ev27 rfl (xm_lt ml_63 rfl) ?_
          refine xi_goto (pc' := 18) kc_63_61 rfl ?_
          refine xw_lv (b := [(0, .ref 115), (1, .int x1), (3, .int x3), (4, .long v25), (6, .int v26), (7, .int x7), (8, .int v27)]) (lvS_cons (lvS_cons (lvS_cons (lvS_cons (lvS_cons (lvS_cons (lvS_cons (lvS_nil (show ([8, 6, 4, 0, 1, 3, 7] : List Nat).Nodup by decide)) rfl) rfl) rfl) rfl) rfl) rfl) rfl) ?_
          exact i1 x1 x3 v25 v26 x7 v27 h (by omega) (by omega) (by omega) (by omega) K (by omega)
        · refine xi_cmt (pc' := 58) kc_63_33 rfl (xc_ne_t (X := v18.toInt) (Y := x1.toInt) rfl rfl (by omega)) ?_
          refine xcps2 (α := Int32) (x8 + 1) (fun v28 ev28 => ?_)
          have zv28 : v28.toInt = (x8.toInt + 1) := by rw [← ev28]; exact (xz_add (X := x8.toInt) (Y := 1) rfl (by decide) (by omega) (by omega)).trans (by omega)
          refine xi_iinc (pc' := 61) (x := x8) (v := v28) (lv' := [(8, .int v28), (0, .ref 115), (1, .int x1), (3, .int x3), (4, .long w4), (6, .int x6), (7, .int x7)]) kc_63_58 rfl rfl ev28 rfl (xm_lt ml_63 rfl) ?_
          refine xi_goto (pc' := 18) kc_63_61 rfl ?_
          refine xw_lv (b := [(0, .ref 115), (1, .int x1), (3, .int x3), (4, .long w4), (6, .int x6), (7, .int x7), (8, .int v28)]) (lvS_cons (lvS_cons (lvS_cons (lvS_cons (lvS_cons (lvS_cons (lvS_cons (lvS_nil (show ([8, 0, 1, 3, 4, 6, 7] : List Nat).Nodup by decide)) rfl) rfl) rfl) rfl) rfl) rfl) rfl) ?_
          exact i1 x1 x3 w4 x6 x7 v28 h (by omega) (by omega) (by omega) (by omega) K (by omega)
set_option maxHeartbeats 4000000 in
theorem mt_63_0 {J : xe_J} {ov : List (List Int32)} (hJ : ∀ d mj as h, mj ≠ xe_loff → J d mj as h = none) (hov1 : ov[1]? = some [10, 0, 0, 0, 0, 0]) (hov2 : ov[2]? = some [99, 30, 50, 50, 1, 99999]) {d : Nat} {Q : Option Value → xe_H → Prop} {h : xe_H} {x1 : Int32} {x2 : Int32} {x3 : Int32} (T : xt h) (b1 : (0 ≤ x1.toInt ∧ x1.toInt ≤ 5)) (b2 : (0 ≤ x2.toInt ∧ x2.toInt ≤ 1200)) (b3 : (0 ≤ x3.toInt ∧ x3.toInt ≤ 600)) (kk : (∀ (r : Int32) (h' : xe_H), xk [(0, 9), (115, 1), (83, 0), (29, 0), (31, 0), (33, 0), (35, 0), (37, 0), (39, 0), (41, 0), (43, 0), (45, 0), (47, 0), (49, 0), (51, 0), (125, 0), (66, 8), (115, 18), (71, 0), (132, 0)] h h' → Q (some (.int r)) h')) : xw J ov (d + 1) 63 (0, [(0, .ref 115), (1, .int x1), (2, .int x2), (3, .int x3)], [], h) Q := by
  have K : xk [(0, 9), (115, 1), (83, 0), (29, 0), (31, 0), (33, 0), (35, 0), (37, 0), (39, 0), (41, 0), (43, 0), (45, 0), (47, 0), (49, 0), (51, 0), (125, 0), (66, 8), (115, 18), (71, 0), (132, 0)] h h := xk_re T
  refine xi_lconst (pc' := 1) (v := 0) kc_63_0 rfl rfl ?_
  refine xi_lstore (pc' := 3) (lv' := [(4, .long 0), (0, .ref 115), (1, .int x1), (2, .int x2), (3, .int x3)]) kc_63_1 rfl rfl (xm_lt ml_63 rfl) ?_
  refine xi_iconst (pc' := 4) (v := 0) kc_63_3 rfl rfl ?_
  refine xi_istore (pc' := 6) (lv' := [(6, .int 0), (4, .long 0), (0, .ref 115), (1, .int x1), (2, .int x2), (3, .int x3)]) kc_63_4 rfl rfl (xm_lt ml_63 rfl) ?_
  refine xi_iload_n (pc' := 7) (x := x2) kc_63_6 rfl rfl ?_
  refine xi_istore (pc' := 9) (lv' := [(7, .int x2), (6, .int 0), (4, .long 0), (0, .ref 115), (1, .int x1), (2, .int x2), (3, .int x3)]) kc_63_7 rfl rfl (xm_lt ml_63 rfl) ?_
  have zc0 : (0 : Int32).toInt = 0 := by decide
  refine xw_lv (b := [(0, .ref 115), (1, .int x1), (3, .int x3), (4, .long 0), (6, .int 0), (7, .int x2)]) (lvS_cons (lvS_cons (lvS_cons (lvS_cons (lvS_cons (lvS_cons (lvS_nil (show ([7, 6, 4, 0, 1, 2, 3] : List Nat).Nodup by decide)) rfl) rfl) rfl) rfl) rfl) rfl) ?_
  exact (lp_63_0 hJ hov1 hov2 (d := d) (hb := h) (fun r9 h9 K9 => kk r9 h9 (xk_tr K K9 rfl)) 91854).1 x1 x3 0 0 x2 h (by omega) (by omega) (by omega) (xk_re K.1) (by omega)
set_option maxHeartbeats 4000000 in
theorem mt_62_0 {J : xe_J} {ov : List (List Int32)} (hJ : ∀ d mj as h, mj ≠ xe_loff → J d mj as h = none) (hov1 : ov[1]? = some [10, 0, 0, 0, 0, 0]) (hov2 : ov[2]? = some [99, 30, 50, 50, 1, 99999]) {d : Nat} {Q : Option Value → xe_H → Prop} {h : xe_H} {x1 : Int32} {x2 : Int32} (T : xt h) (kk : (∀ (r : Int32) (h' : xe_H), xk [(0, 9), (115, 1), (83, 0), (29, 0), (31, 0), (33, 0), (35, 0), (37, 0), (39, 0), (41, 0), (43, 0), (45, 0), (47, 0), (49, 0), (51, 0), (125, 0), (66, 8), (115, 18), (71, 0), (132, 0)] h h' → Q (some (.int r)) h')) : xw J ov (d + 2) 62 (0, [(0, .ref 115), (1, .int x1), (2, .int x2)], [], h) Q := by
  have K : xk [(0, 9), (115, 1), (83, 0), (29, 0), (31, 0), (33, 0), (35, 0), (37, 0), (39, 0), (41, 0), (43, 0), (45, 0), (47, 0), (49, 0), (51, 0), (125, 0), (66, 8), (115, 18), (71, 0), (132, 0)] h h := xk_re T
  have rx1 := xc_rng x1
  have rx2 := xc_rng x2
  refine xi_aload_n (pc' := 1) (x := 115) kc_62_0 rfl rfl ?_
  refine xi_iconst (pc' := 2) (v := 0) kc_62_1 rfl rfl ?_
  refine xp_115 K.1 (fun u1 u2 u3 u4 u5 u6 u7 u8 u9 u10 u11 u12 u13 bu1 bu2 bu3 bu4 bu5 bu6 bu7 bu8 bu9 bu10 bu11 bu12 bu13 A14 => ?_)
  refine xi_putfield (pc' := 5) (fs' := [.int 0, .int u2, .ref 116, .ref 117, .ref 118, .ref 119, .ref 120, .ref 121, .ref 122, .ref 123, .ref 124, .ref 125, .ref 126, .ref 127, .ref 128, .ref 129, .int u3, .ref 130, .int u4, .ref 131, .ref 132, .ref 133, .ref 134, .int u5, .ref 135, .ref 136, .ref 137, .ref 138, .ref 139, .ref 140, .ref 141, .ref 142, .int u6, .int u7, .int u8, .ref 143, .ref 144, .ref 145, .ref 146, .ref 147, .ref 148, .int u9, .ref 149, .ref 150, .ref 151, .int u10, .ref 152, .ref 153, .ref 154, .ref 155, .ref 156, .ref 157, .ref 158, .ref 159, .int u11, .ref 160, .int u12, .ref 161, .ref 162, .ref 163, .ref 164, .int u13, .ref 165, .ref 166]) kc_62_2 rfl rfl rfl A14 rfl rfl rfl (Nat.le_of_ble_eq_true rfl) rfl (fun hh16 eh15 => ?_)
  have K17 := xk_pf (k := 0) (v := 0) K (xk_wf rfl) xD_115 A14 rfl (by first | omega | decide) (by first | omega | decide) eh15 rfl
  refine xi_iload_n (pc' := 6) (x := x1) kc_62_5 rfl rfl ?_
  refine xi_iconst (pc' := 7) (v := 0) kc_62_6 rfl rfl ?_
  refine xi_aload_n (pc' := 8) (x := 115) kc_62_7 rfl rfl ?_
  refine xi_getfield (pc' := 11) (v := .int u8) kc_62_8 rfl rfl rfl eh15.1 rfl ?_
  refine xi_iconst (pc' := 12) (v := 1) kc_62_11 rfl rfl ?_
  refine xcps2 (α := Int32) (u8 - 1) (fun v18 ev18 => ?_)
  have zv18 : v18.toInt = (u8.toInt + (-1)) := by rw [← ev18]; exact (xz_sub (X := u8.toInt) (Y := 1) rfl (by decide) (by omega) (by omega)).trans (by omega)
  refine xi_isub (pc' := 13) (v := v18) kc_62_12 rfl ev18 ?_
  refine xi_static (mj := 11) (as := [.int x1, .int 0, .int v18]) (st1 := []) (lv0 := [(0, .int x1), (1, .int 0), (2, .int v18)]) kc_62_13 rfl rfl (Nat.le_of_ble_eq_true rfl) rfl rfl (Nat.le_of_ble_eq_true rfl) (hJ _ _ _ _ (by decide)) (xm_le ml_11 rfl) rfl ?_
  refine xi_iload_n (pc' := 1) (x := x1) kc_11_0 rfl rfl ?_
  refine xi_iload_n (pc' := 2) (x := 0) kc_11_1 rfl rfl ?_
  by_cases c19 : x1.toInt < 0
  · refine xi_cmt (pc' := 14) kc_11_2 rfl (xc_lt_t (X := x1.toInt) (Y := 0) rfl (by decide) (by omega)) ?_
    refine xi_iconst (pc' := 15) (v := 0) kc_11_14 rfl rfl ?_
    refine xi_ireturn kc_11_15 mr_11 rfl ?_
    show xw J ov (d + 2) 62 (16, [(0, .ref 115), (1, .int x1), (2, .int x2)], [.int 0], hh16) _
    refine xi_iff (pc' := 19) kc_62_16 rfl rfl ?_
    refine xi_aload_n (pc' := 20) (x := 115) kc_62_19 rfl rfl ?_
    refine xi_iconst (pc' := 21) (v := (-1)) kc_62_20 rfl rfl ?_
    refine xi_virtual (mj := 12) (as := [.int (-1)]) (st1 := []) (lv0 := [(0, .ref 115), (1, .int (-1))]) kc_62_21 rfl rfl rfl rfl rfl eh15.1 (Nat.le_of_ble_eq_true rfl) (hJ _ _ _ _ (by decide)) (xm_le ml_12 rfl) rfl ?_
    refine xi_aload_n (pc' := 1) (x := 115) kc_12_0 rfl rfl ?_
    refine xi_getfield (pc' := 4) (v := .ref 140) kc_12_1 rfl rfl rfl eh15.1 rfl ?_
    refine xi_iload_n (pc' := 5) (x := (-1)) kc_12_4 rfl rfl ?_
    refine xi_ineg (pc' := 6) (v := 1) kc_12_5 rfl rfl ?_
    refine xi_dup2 (pc' := 7) kc_12_6 rfl ⟨rfl, rfl⟩ ?_
    refine xcps4 (xk_arr K17.1 xD_140) (fun y20 A20 hy20 ry20 => ?_)
    refine xcps4 (xj_get hy20 ry20 (i := 1) (by decide) (by decide)) (fun v21 ev21 bv21 dv21 => ?_)
    refine xi_iaload (pc' := 8) (v := v21) kc_12_7 rfl A20 (by decide) rfl (xi_in (by decide) (by rw [hy20]; decide)) ev21 ?_
    refine xi_iconst (pc' := 9) (v := 1) kc_12_8 rfl rfl ?_
    refine xcps2 (α := Int32) ((v21 : Int32) + 1) (fun v22 ev22 => ?_)
    have rv22 := xc_rng v22
    refine xi_iadd (pc' := 10) (v := v22) kc_12_9 rfl ev22 ?_
    refine xcps4 (xj_set (v := v22) hy20 ry20 1 (by first | omega | decide) (by first | omega | decide)) (fun y23 s23 hy23 ry23 => ?_)
    refine xi_iastore (pc' := 11) (x' := y23) kc_12_10 rfl A20 rfl (xi_in (by decide) (by rw [hy20]; decide)) s23 (fun hh23 eh23 => ?_)
    have K24 := xk_pa K17 (xk_wa rfl) xD_140 hy23 ry23 eh23
    refine xi_iload_n (pc' := 12) (x := (-1)) kc_12_11 rfl rfl ?_
    refine xi_ireturn kc_12_12 mr_12 rfl ?_
    show xw J ov (d + 2) 62 (24, [(0, .ref 115), (1, .int x1), (2, .int x2)], [.int (-1)], hh23) _
    refine xi_ireturn kc_62_24 mr_62 rfl ?_
    have zcm1 : ((-1) : Int32).toInt = (-1) := by decide
    exact kk (-1) hh23 K24
  · refine xi_cmf (pc' := 5) kc_11_2 rfl (xc_lt_f (X := x1.toInt) (Y := 0) rfl (by decide) (by omega)) ?_
    refine xi_iload_n (pc' := 6) (x := x1) kc_11_5 rfl rfl ?_
    refine xi_iload_n (pc' := 7) (x := v18) kc_11_6 rfl rfl ?_
    by_cases c25 : (u8.toInt + (-1)) < x1.toInt
    · refine xi_cmt (pc' := 14) kc_11_7 rfl (xc_gt_t (X := x1.toInt) (Y := (u8.toInt + (-1))) rfl zv18 (by omega)) ?_
      refine xi_iconst (pc' := 15) (v := 0) kc_11_14 rfl rfl ?_
      refine xi_ireturn kc_11_15 mr_11 rfl ?_
      show xw J ov (d + 2) 62 (16, [(0, .ref 115), (1, .int x1), (2, .int x2)], [.int 0], hh16) _
      refine xi_iff (pc' := 19) kc_62_16 rfl rfl ?_
      refine xi_aload_n (pc' := 20) (x := 115) kc_62_19 rfl rfl ?_
      refine xi_iconst (pc' := 21) (v := (-1)) kc_62_20 rfl rfl ?_
      refine xi_virtual (mj := 12) (as := [.int (-1)]) (st1 := []) (lv0 := [(0, .ref 115), (1, .int (-1))]) kc_62_21 rfl rfl rfl rfl rfl eh15.1 (Nat.le_of_ble_eq_true rfl) (hJ _ _ _ _ (by decide)) (xm_le ml_12 rfl) rfl ?_
      refine xi_aload_n (pc' := 1) (x := 115) kc_12_0 rfl rfl ?_
      refine xi_getfield (pc' := 4) (v := .ref 140) kc_12_1 rfl rfl rfl eh15.1 rfl ?_
      refine xi_iload_n (pc' := 5) (x := (-1)) kc_12_4 rfl rfl ?_
      refine xi_ineg (pc' := 6) (v := 1) kc_12_5 rfl rfl ?_
      refine xi_dup2 (pc' := 7) kc_12_6 rfl ⟨rfl, rfl⟩ ?_
      refine xcps4 (xk_arr K17.1 xD_140) (fun y26 A26 hy26 ry26 => ?_)
      refine xcps4 (xj_get hy26 ry26 (i := 1) (by decide) (by decide)) (fun v27 ev27 bv27 dv27 => ?_)
      refine xi_iaload (pc' := 8) (v := v27) kc_12_7 rfl A26 (by decide) rfl (xi_in (by decide) (by rw [hy26]; decide)) ev27 ?_
      refine xi_iconst (pc' := 9) (v := 1) kc_12_8 rfl rfl ?_
      refine xcps2 (α := Int32) ((v27 : Int32) + 1) (fun v28 ev28 => ?_)
      have rv28 := xc_rng v28
      refine xi_iadd (pc' := 10) (v := v28) kc_12_9 rfl ev28 ?_
      refine xcps4 (xj_set (v := v28) hy26 ry26 1 (by first | omega | decide) (by first | omega | decide)) (fun y29 s29 hy29 ry29 => ?_)
      refine xi_iastore (pc' := 11) (x' := y29) kc_12_10 rfl A26 rfl (xi_in (by decide) (by rw [hy26]; decide)) s29 (fun hh29 eh29 => ?_)
      have K30 := xk_pa K17 (xk_wa rfl) xD_140 hy29 ry29 eh29
      refine xi_iload_n (pc' := 12) (x := (-1)) kc_12_11 rfl rfl ?_
      refine xi_ireturn kc_12_12 mr_12 rfl ?_
      show xw J ov (d + 2) 62 (24, [(0, .ref 115), (1, .int x1), (2, .int x2)], [.int (-1)], hh29) _
      refine xi_ireturn kc_62_24 mr_62 rfl ?_
      have zcm1 : ((-1) : Int32).toInt = (-1) := by decide
      exact kk (-1) hh29 K30
    · refine xi_cmf (pc' := 10) kc_11_7 rfl (xc_gt_f (X := x1.toInt) (Y := (u8.toInt + (-1))) rfl zv18 (by omega)) ?_
      refine xi_iconst (pc' := 11) (v := 1) kc_11_10 rfl rfl ?_
      refine xi_goto (pc' := 15) kc_11_11 rfl ?_
      refine xi_ireturn kc_11_15 mr_11 rfl ?_
      show xw J ov (d + 2) 62 (16, [(0, .ref 115), (1, .int x1), (2, .int x2)], [.int 1], hh16) _
      refine xi_ift (pc' := 25) kc_62_16 rfl rfl ?_
      refine xi_iload_n (pc' := 26) (x := x2) kc_62_25 rfl rfl ?_
      refine xi_iconst (pc' := 27) (v := 0) kc_62_26 rfl rfl ?_
      refine xi_iconst (pc' := 28) (v := 2) kc_62_27 rfl rfl ?_
      refine xi_static (mj := 11) (as := [.int x2, .int 0, .int 2]) (st1 := []) (lv0 := [(0, .int x2), (1, .int 0), (2, .int 2)]) kc_62_28 rfl rfl (Nat.le_of_ble_eq_true rfl) rfl rfl (Nat.le_of_ble_eq_true rfl) (hJ _ _ _ _ (by decide)) (xm_le ml_11 rfl) rfl ?_
      refine xi_iload_n (pc' := 1) (x := x2) kc_11_0 rfl rfl ?_
      refine xi_iload_n (pc' := 2) (x := 0) kc_11_1 rfl rfl ?_
      by_cases c31 : x2.toInt < 0
      · refine xi_cmt (pc' := 14) kc_11_2 rfl (xc_lt_t (X := x2.toInt) (Y := 0) rfl (by decide) (by omega)) ?_
        refine xi_iconst (pc' := 15) (v := 0) kc_11_14 rfl rfl ?_
        refine xi_ireturn kc_11_15 mr_11 rfl ?_
        show xw J ov (d + 2) 62 (31, [(0, .ref 115), (1, .int x1), (2, .int x2)], [.int 0], hh16) _
        refine xi_iff (pc' := 34) kc_62_31 rfl rfl ?_
        refine xi_aload_n (pc' := 35) (x := 115) kc_62_34 rfl rfl ?_
        refine xi_bipush (pc' := 37) (v := (-2)) kc_62_35 rfl rfl ?_
        refine xi_virtual (mj := 12) (as := [.int (-2)]) (st1 := []) (lv0 := [(0, .ref 115), (1, .int (-2))]) kc_62_37 rfl rfl rfl rfl rfl eh15.1 (Nat.le_of_ble_eq_true rfl) (hJ _ _ _ _ (by decide)) (xm_le ml_12 rfl) rfl ?_
        refine xi_aload_n (pc' := 1) (x := 115) kc_12_0 rfl rfl ?_
        refine xi_getfield (pc' := 4) (v := .ref 140) kc_12_1 rfl rfl rfl eh15.1 rfl ?_
        refine xi_iload_n (pc' := 5) (x := (-2)) kc_12_4 rfl rfl ?_
        refine xi_ineg (pc' := 6) (v := 2) kc_12_5 rfl rfl ?_
        refine xi_dup2 (pc' := 7) kc_12_6 rfl ⟨rfl, rfl⟩ ?_
        refine xcps4 (xk_arr K17.1 xD_140) (fun y32 A32 hy32 ry32 => ?_)
        refine xcps4 (xj_get hy32 ry32 (i := 2) (by decide) (by decide)) (fun v33 ev33 bv33 dv33 => ?_)
        refine xi_iaload (pc' := 8) (v := v33) kc_12_7 rfl A32 (by decide) rfl (xi_in (by decide) (by rw [hy32]; decide)) ev33 ?_
        refine xi_iconst (pc' := 9) (v := 1) kc_12_8 rfl rfl ?_
        refine xcps2 (α := Int32) ((v33 : Int32) + 1) (fun v34 ev34 => ?_)
        have rv34 := xc_rng v34
        refine xi_iadd (pc' := 10) (v := v34) kc_12_9 rfl ev34 ?_
        refine xcps4 (xj_set (v := v34) hy32 ry32 2 (by first | omega | decide) (by first | omega | decide)) (fun y35 s35 hy35 ry35 => ?_)
        refine xi_iastore (pc' := 11) (x' := y35) kc_12_10 rfl A32 rfl (xi_in (by decide) (by rw [hy32]; decide)) s35 (fun hh35 eh35 => ?_)
        have K36 := xk_pa K17 (xk_wa rfl) xD_140 hy35 ry35 eh35
        refine xi_iload_n (pc' := 12) (x := (-2)) kc_12_11 rfl rfl ?_
        refine xi_ireturn kc_12_12 mr_12 rfl ?_
        show xw J ov (d + 2) 62 (40, [(0, .ref 115), (1, .int x1), (2, .int x2)], [.int (-2)], hh35) _
        refine xi_ireturn kc_62_40 mr_62 rfl ?_
        have zcm2 : ((-2) : Int32).toInt = (-2) := by decide
        exact kk (-2) hh35 K36
      · refine xi_cmf (pc' := 5) kc_11_2 rfl (xc_lt_f (X := x2.toInt) (Y := 0) rfl (by decide) (by omega)) ?_
        refine xi_iload_n (pc' := 6) (x := x2) kc_11_5 rfl rfl ?_
        refine xi_iload_n (pc' := 7) (x := 2) kc_11_6 rfl rfl ?_
        by_cases c37 : 2 < x2.toInt
        · refine xi_cmt (pc' := 14) kc_11_7 rfl (xc_gt_t (X := x2.toInt) (Y := 2) rfl (by decide) (by omega)) ?_
          refine xi_iconst (pc' := 15) (v := 0) kc_11_14 rfl rfl ?_
          refine xi_ireturn kc_11_15 mr_11 rfl ?_
          show xw J ov (d + 2) 62 (31, [(0, .ref 115), (1, .int x1), (2, .int x2)], [.int 0], hh16) _
          refine xi_iff (pc' := 34) kc_62_31 rfl rfl ?_
          refine xi_aload_n (pc' := 35) (x := 115) kc_62_34 rfl rfl ?_
          refine xi_bipush (pc' := 37) (v := (-2)) kc_62_35 rfl rfl ?_
          refine xi_virtual (mj := 12) (as := [.int (-2)]) (st1 := []) (lv0 := [(0, .ref 115), (1, .int (-2))]) kc_62_37 rfl rfl rfl rfl rfl eh15.1 (Nat.le_of_ble_eq_true rfl) (hJ _ _ _ _ (by decide)) (xm_le ml_12 rfl) rfl ?_
          refine xi_aload_n (pc' := 1) (x := 115) kc_12_0 rfl rfl ?_
          refine xi_getfield (pc' := 4) (v := .ref 140) kc_12_1 rfl rfl rfl eh15.1 rfl ?_
          refine xi_iload_n (pc' := 5) (x := (-2)) kc_12_4 rfl rfl ?_
          refine xi_ineg (pc' := 6) (v := 2) kc_12_5 rfl rfl ?_
          refine xi_dup2 (pc' := 7) kc_12_6 rfl ⟨rfl, rfl⟩ ?_
          refine xcps4 (xk_arr K17.1 xD_140) (fun y38 A38 hy38 ry38 => ?_)
          refine xcps4 (xj_get hy38 ry38 (i := 2) (by decide) (by decide)) (fun v39 ev39 bv39 dv39 => ?_)
          refine xi_iaload (pc' := 8) (v := v39) kc_12_7 rfl A38 (by decide) rfl (xi_in (by decide) (by rw [hy38]; decide)) ev39 ?_
          refine xi_iconst (pc' := 9) (v := 1) kc_12_8 rfl rfl ?_
          refine xcps2 (α := Int32) ((v39 : Int32) + 1) (fun v40 ev40 => ?_)
          have rv40 := xc_rng v40
          refine xi_iadd (pc' := 10) (v := v40) kc_12_9 rfl ev40 ?_
          refine xcps4 (xj_set (v := v40) hy38 ry38 2 (by first | omega | decide) (by first | omega | decide)) (fun y41 s41 hy41 ry41 => ?_)
          refine xi_iastore (pc' := 11) (x' := y41) kc_12_10 rfl A38 rfl (xi_in (by decide) (by rw [hy38]; decide)) s41 (fun hh41 eh41 => ?_)
          have K42 := xk_pa K17 (xk_wa rfl) xD_140 hy41 ry41 eh41
          refine xi_iload_n (pc' := 12) (x := (-2)) kc_12_11 rfl rfl ?_
          refine xi_ireturn kc_12_12 mr_12 rfl ?_
          show xw J ov (d + 2) 62 (40, [(0, .ref 115), (1, .int x1), (2, .int x2)], [.int (-2)], hh41) _
          refine xi_ireturn kc_62_40 mr_62 rfl ?_
          have zcm2 : ((-2) : Int32).toInt = (-2) := by decide
          exact kk (-2) hh41 K42
        · refine xi_cmf (pc' := 10) kc_11_7 rfl (xc_gt_f (X := x2.toInt) (Y := 2) rfl (by decide) (by omega)) ?_
          refine xi_iconst (pc' := 11) (v := 1) kc_11_10 rfl rfl ?_
          refine xi_goto (pc' := 15) kc_11_11 rfl ?_
          refine xi_ireturn kc_11_15 mr_11 rfl ?_
          show xw J ov (d + 2) 62 (31, [(0, .ref 115), (1, .int x1), (2, .int x2)], [.int 1], hh16) _
          refine xi_ift (pc' := 41) kc_62_31 rfl rfl ?_
          refine xi_aload_n (pc' := 42) (x := 115) kc_62_41 rfl rfl ?_
          refine xi_getfield (pc' := 45) (v := .ref 147) kc_62_42 rfl rfl rfl eh15.1 rfl ?_
          refine xi_iload_n (pc' := 46) (x := x1) kc_62_45 rfl rfl ?_
          refine xcps4 (xk_arr K17.1 xD_147) (fun y43 A43 hy43 ry43 => ?_)
          refine xcps4 (xj_get hy43 ry43 (i := x1) (by omega) (by omega)) (fun v44 ev44 bv44 dv44 => ?_)
          refine xi_iaload (pc' := 47) (v := v44) kc_62_46 rfl A43 (by decide) rfl (xi_in (by omega) (by rw [hy43]; omega)) ev44 ?_
          refine xi_aload_n (pc' := 48) (x := 115) kc_62_47 rfl rfl ?_
          refine xi_getfield (pc' := 51) (v := .int u2) kc_62_48 rfl rfl rfl eh15.1 rfl ?_
          by_cases c45 : v44.toInt ≤ u2.toInt
          · refine xi_cmt (pc' := 61) kc_62_51 rfl (xc_le_t (X := v44.toInt) (Y := u2.toInt) rfl rfl (by omega)) ?_
            refine xi_aload_n (pc' := 62) (x := 115) kc_62_61 rfl rfl ?_
            refine xi_getfield (pc' := 65) (v := .ref 146) kc_62_62 rfl rfl rfl eh15.1 rfl ?_
            refine xi_iload_n (pc' := 66) (x := x1) kc_62_65 rfl rfl ?_
            refine xcps4 (xk_arr K17.1 xD_146) (fun y46 A46 hy46 ry46 => ?_)
            refine xcps4 (xj_get hy46 ry46 (i := x1) (by omega) (by omega)) (fun v47 ev47 bv47 dv47 => ?_)
            refine xi_iaload (pc' := 67) (v := v47) kc_62_66 rfl A46 (by decide) rfl (xi_in (by omega) (by rw [hy46]; omega)) ev47 ?_
            refine xi_istore_n (pc' := 68) (lv' := [(3, .int v47), (0, .ref 115), (1, .int x1), (2, .int x2)]) kc_62_67 rfl rfl (xm_lt ml_62 rfl) ?_
            refine xi_iconst (pc' := 69) (v := 2) kc_62_68 rfl rfl ?_
            refine xi_iload_n (pc' := 70) (x := v47) kc_62_69 rfl rfl ?_
            refine xcps2 (α := Int32) (2 * v47) (fun v48 ev48 => ?_)
            have zv48 : v48.toInt = (2) * v47.toInt := by rw [← ev48]; exact (xz_mul (X := 2) (Y := v47.toInt) (by decide) rfl (by omega) (by omega)).trans (by omega)
            refine xi_imul (pc' := 71) (v := v48) kc_62_70 rfl ev48 ?_
            refine xi_aload_n (pc' := 72) (x := 115) kc_62_71 rfl rfl ?_
            refine xi_getfield (pc' := 75) (v := .ref 147) kc_62_72 rfl rfl rfl eh15.1 rfl ?_
            refine xi_iload_n (pc' := 76) (x := x1) kc_62_75 rfl rfl ?_
            refine xi_iaload (pc' := 77) (v := v44) kc_62_76 rfl A43 (by decide) rfl (xi_in (by omega) (by rw [hy43]; omega)) ev44 ?_
            refine xcps2 (α := Int32) (v48 - v44) (fun v49 ev49 => ?_)
            have zv49 : v49.toInt = ((2) * v47.toInt + (-1) * v44.toInt) := by rw [← ev49]; exact (xz_sub (X := (2) * v47.toInt) (Y := v44.toInt) zv48 rfl (by omega) (by omega)).trans (by omega)
            refine xi_isub (pc' := 78) (v := v49) kc_62_77 rfl ev49 ?_
            refine xi_istore (pc' := 80) (lv' := [(4, .int v49), (3, .int v47), (0, .ref 115), (1, .int x1), (2, .int x2)]) kc_62_78 rfl rfl (xm_lt ml_62 rfl) ?_
            refine xi_aload_n (pc' := 81) (x := 115) kc_62_80 rfl rfl ?_
            refine xi_aload_n (pc' := 82) (x := 115) kc_62_81 rfl rfl ?_
            refine xi_getfield (pc' := 85) (v := .ref 143) kc_62_82 rfl rfl rfl eh15.1 rfl ?_
            refine xi_iload_n (pc' := 86) (x := x1) kc_62_85 rfl rfl ?_
            refine xcps4 (xk_arr K17.1 xD_143) (fun y50 A50 hy50 ry50 => ?_)
            refine xcps4 (xj_get hy50 ry50 (i := x1) (by omega) (by omega)) (fun v51 ev51 bv51 dv51 => ?_)
            refine xi_iaload (pc' := 87) (v := v51) kc_62_86 rfl A50 (by decide) rfl (xi_in (by omega) (by rw [hy50]; omega)) ev51 ?_
            refine xi_iload_n (pc' := 88) (x := v47) kc_62_87 rfl rfl ?_
            refine xi_aload_n (pc' := 89) (x := 115) kc_62_88 rfl rfl ?_
            refine xi_getfield (pc' := 92) (v := .ref 147) kc_62_89 rfl rfl rfl eh15.1 rfl ?_
            refine xi_iload_n (pc' := 93) (x := x1) kc_62_92 rfl rfl ?_
            refine xi_iaload (pc' := 94) (v := v44) kc_62_93 rfl A43 (by decide) rfl (xi_in (by omega) (by rw [hy43]; omega)) ev44 ?_
            refine xi_virtual (mj := 63) (as := [.int v51, .int v47, .int v44]) (st1 := []) (lv0 := [(0, .ref 115), (1, .int v51), (2, .int v47), (3, .int v44)]) kc_62_94 rfl rfl rfl rfl rfl eh15.1 (Nat.le_of_ble_eq_true rfl) (hJ _ _ _ _ (by decide)) (xm_le ml_63 rfl) rfl ?_
            refine mt_63_0 hJ hov1 hov2 (d := d) (x1 := v51) (x2 := v47) (x3 := v44) K17.1 (by first | omega | decide) (by first | omega | decide) (by first | omega | decide) (fun r52 hh53 K54 => ?_)
            have br52 := xc_rng r52
            have K55 := xk_tr K17 K54 rfl
            refine xp_115 K55.1 (fun u56 u57 u58 u59 u60 u61 u62 u63 u64 u65 u66 u67 u68 bu56 bu57 bu58 bu59 bu60 bu61 bu62 bu63 bu64 bu65 bu66 bu67 bu68 A69 => ?_)
            have e70 : u2 = u57 := xk_eqi (q := 1) K54 rfl eh15.1 A69 rfl rfl
            subst e70
            have e71 : u4 = u59 := xk_eqi (q := 18) K54 rfl eh15.1 A69 rfl rfl
            subst e71
            show xw J ov (d + 2) 62 (97, [(4, .int v49), (3, .int v47), (0, .ref 115), (1, .int x1), (2, .int x2)], [.int r52], hh53) _
            refine xi_istore (pc' := 99) (lv' := [(5, .int r52), (4, .int v49), (3, .int v47), (0, .ref 115), (1, .int x1), (2, .int x2)]) kc_62_97 rfl rfl (xm_lt ml_62 rfl) ?_
            refine xi_aload_n (pc' := 100) (x := 115) kc_62_99 rfl rfl ?_
            refine xi_aload_n (pc' := 101) (x := 115) kc_62_100 rfl rfl ?_
            refine xi_getfield (pc' := 104) (v := .ref 143) kc_62_101 rfl rfl rfl A69 rfl ?_
            refine xi_iload_n (pc' := 105) (x := x1) kc_62_104 rfl rfl ?_
            refine xcps4 (xk_arr K55.1 xD_143) (fun y72 A72 hy72 ry72 => ?_)
            refine xcps4 (xj_get hy72 ry72 (i := x1) (by omega) (by omega)) (fun v73 ev73 bv73 dv73 => ?_)
            refine xi_iaload (pc' := 106) (v := v73) kc_62_105 rfl A72 (by decide) rfl (xi_in (by omega) (by rw [hy72]; omega)) ev73 ?_
            refine xi_iload (pc' := 108) (x := v49) kc_62_106 rfl rfl ?_
            by_cases c74 : 0 ≤ ((2) * v47.toInt + (-1) * v44.toInt)
            · refine xi_ift (pc' := 115) kc_62_108 rfl (xc_ge_t (X := ((2) * v47.toInt + (-1) * v44.toInt)) (Y := 0) zv49 (by decide) (by omega)) ?_
              refine xi_iload (pc' := 117) (x := v49) kc_62_115 rfl rfl ?_
              refine xi_iload_n (pc' := 118) (x := v47) kc_62_117 rfl rfl ?_
              refine xi_virtual (mj := 63) (as := [.int v73, .int v49, .int v47]) (st1 := []) (lv0 := [(0, .ref 115), (1, .int v73), (2, .int v49), (3, .int v47)]) kc_62_118 rfl rfl rfl rfl rfl A69 (Nat.le_of_ble_eq_true rfl) (hJ _ _ _ _ (by decide)) (xm_le ml_63 rfl) rfl ?_
              refine mt_63_0 hJ hov1 hov2 (d := d) (x1 := v73) (x2 := v49) (x3 := v47) K55.1 (by first | omega | decide) (by first | omega | decide) (by first | omega | decide) (fun r75 hh76 K77 => ?_)
              have br75 := xc_rng r75
              have K78 := xk_tr K55 K77 rfl
              refine xp_115 K78.1 (fun u79 u80 u81 u82 u83 u84 u85 u86 u87 u88 u89 u90 u91 bu79 bu80 bu81 bu82 bu83 bu84 bu85 bu86 bu87 bu88 bu89 bu90 bu91 A92 => ?_)
              have e93 : u2 = u80 := xk_eqi (q := 1) K77 rfl A69 A92 rfl rfl
              subst e93
              have e94 : u4 = u82 := xk_eqi (q := 18) K77 rfl A69 A92 rfl rfl
              subst e94
              show xw J ov (d + 2) 62 (121, [(5, .int r52), (4, .int v49), (3, .int v47), (0, .ref 115), (1, .int x1), (2, .int x2)], [.int r75], hh76) _
              refine xi_istore (pc' := 123) (lv' := [(6, .int r75), (5, .int r52), (4, .int v49), (3, .int v47), (0, .ref 115), (1, .int x1), (2, .int x2)]) kc_62_121 rfl rfl (xm_lt ml_62 rfl) ?_
              refine xi_iload_n (pc' := 124) (x := x2) kc_62_123 rfl rfl ?_
              by_cases c95 : x2.toInt = 0
              · refine xi_iff (pc' := 127) kc_62_124 rfl (xc_ne_f (X := x2.toInt) (Y := 0) rfl (by decide) (by omega)) ?_
                refine xi_iload (pc' := 129) (x := r52) kc_62_127 rfl rfl ?_
                refine xi_goto (pc' := 154) kc_62_129 rfl ?_
                refine xi_ireturn kc_62_154 mr_62 rfl ?_
                exact kk r52 hh76 K78
              · refine xi_ift (pc' := 132) kc_62_124 rfl (xc_ne_t (X := x2.toInt) (Y := 0) rfl (by decide) (by omega)) ?_
                refine xi_iload_n (pc' := 133) (x := x2) kc_62_132 rfl rfl ?_
                refine xi_iconst (pc' := 134) (v := 1) kc_62_133 rfl rfl ?_
                by_cases c96 : x2.toInt = 1
                · refine xi_cmf (pc' := 137) kc_62_134 rfl (xc_ne_f (X := x2.toInt) (Y := 1) rfl (by decide) (by omega)) ?_
                  refine xi_iload (pc' := 139) (x := r75) kc_62_137 rfl rfl ?_
                  refine xi_goto (pc' := 154) kc_62_139 rfl ?_
                  refine xi_ireturn kc_62_154 mr_62 rfl ?_
                  exact kk r75 hh76 K78
                · refine xi_cmt (pc' := 142) kc_62_134 rfl (xc_ne_t (X := x2.toInt) (Y := 1) rfl (by decide) (by omega)) ?_
                  refine xi_iload (pc' := 144) (x := r52) kc_62_142 rfl rfl ?_
                  refine xi_iload (pc' := 146) (x := r75) kc_62_144 rfl rfl ?_
                  by_cases c97 : r75.toInt ≤ r52.toInt
                  · refine xi_cmt (pc' := 153) kc_62_146 rfl (xc_ge_t (X := r52.toInt) (Y := r75.toInt) rfl rfl (by omega)) ?_
                    refine xi_iconst (pc' := 154) (v := 0) kc_62_153 rfl rfl ?_
                    refine xi_ireturn kc_62_154 mr_62 rfl ?_
                    have zc0 : (0 : Int32).toInt = 0 := by decide
                    exact kk 0 hh76 K78
                  · refine xi_cmf (pc' := 149) kc_62_146 rfl (xc_ge_f (X := r52.toInt) (Y := r75.toInt) rfl rfl (by omega)) ?_
                    refine xi_iconst (pc' := 150) (v := 1) kc_62_149 rfl rfl ?_
                    refine xi_goto (pc' := 154) kc_62_150 rfl ?_
                    refine xi_ireturn kc_62_154 mr_62 rfl ?_
                    have zc1 : (1 : Int32).toInt = 1 := by decide
                    exact kk 1 hh76 K78
            · refine xi_iff (pc' := 111) kc_62_108 rfl (xc_ge_f (X := ((2) * v47.toInt + (-1) * v44.toInt)) (Y := 0) zv49 (by decide) (by omega)) ?_
              refine xi_iconst (pc' := 112) (v := 0) kc_62_111 rfl rfl ?_
              refine xi_goto (pc' := 117) kc_62_112 rfl ?_
              refine xi_iload_n (pc' := 118) (x := v47) kc_62_117 rfl rfl ?_
              refine xi_virtual (mj := 63) (as := [.int v73, .int 0, .int v47]) (st1 := []) (lv0 := [(0, .ref 115), (1, .int v73), (2, .int 0), (3, .int v47)]) kc_62_118 rfl rfl rfl rfl rfl A69 (Nat.le_of_ble_eq_true rfl) (hJ _ _ _ _ (by decide)) (xm_le ml_63 rfl) rfl ?_
              have zc0 : (0 : Int32).toInt = 0 := by decide
              refine mt_63_0 hJ hov1 hov2 (d := d) (x1 := v73) (x2 := 0) (x3 := v47) K55.1 (by first | omega | decide) (by first | omega | decide) (by first | omega | decide) (fun r98 hh99 K100 => ?_)
              have br98 := xc_rng r98
              have K101 := xk_tr K55 K100 rfl
              refine xp_115 K101.1 (fun u102 u103 u104 u105 u106 u107 u108 u109 u110 u111 u112 u113 u114 bu102 bu103 bu104 bu105 bu106 bu107 bu108 bu109 bu110 bu111 bu112 bu113 bu114 A115 => ?_)
              have e116 : u2 = u103 := xk_eqi (q := 1) K100 rfl A69 A115 rfl rfl
              subst e116
              have e117 : u4 = u105 := xk_eqi (q := 18) K100 rfl A69 A115 rfl rfl
              subst e117
              show xw J ov (d + 2) 62 (121, [(5, .int r52), (4, .int v49), (3, .int v47), (0, .ref 115), (1, .int x1), (2, .int x2)], [.int r98], hh99) _
              refine xi_istore (pc' := 123) (lv' := [(6, .int r98), (5, .int r52), (4, .int v49), (3, .int v47), (0, .ref 115), (1, .int x1), (2, .int x2)]) kc_62_121 rfl rfl (xm_lt ml_62 rfl) ?_
              refine xi_iload_n (pc' := 124) (x := x2) kc_62_123 rfl rfl ?_
              by_cases c118 : x2.toInt = 0
              · refine xi_iff (pc' := 127) kc_62_124 rfl (xc_ne_f (X := x2.toInt) (Y := 0) rfl (by decide) (by omega)) ?_
                refine xi_iload (pc' := 129) (x := r52) kc_62_127 rfl rfl ?_
                refine xi_goto (pc' := 154) kc_62_129 rfl ?_
                refine xi_ireturn kc_62_154 mr_62 rfl ?_
                exact kk r52 hh99 K101
              · refine xi_ift (pc' := 132) kc_62_124 rfl (xc_ne_t (X := x2.toInt) (Y := 0) rfl (by decide) (by omega)) ?_
                refine xi_iload_n (pc' := 133) (x := x2) kc_62_132 rfl rfl ?_
                refine xi_iconst (pc' := 134) (v := 1) kc_62_133 rfl rfl ?_
                by_cases c119 : x2.toInt = 1
                · refine xi_cmf (pc' := 137) kc_62_134 rfl (xc_ne_f (X := x2.toInt) (Y := 1) rfl (by decide) (by omega)) ?_
                  refine xi_iload (pc' := 139) (x := r98) kc_62_137 rfl rfl ?_
                  refine xi_goto (pc' := 154) kc_62_139 rfl ?_
                  refine xi_ireturn kc_62_154 mr_62 rfl ?_
                  exact kk r98 hh99 K101
                · refine xi_cmt (pc' := 142) kc_62_134 rfl (xc_ne_t (X := x2.toInt) (Y := 1) rfl (by decide) (by omega)) ?_
                  refine xi_iload (pc' := 144) (x := r52) kc_62_142 rfl rfl ?_
                  refine xi_iload (pc' := 146) (x := r98) kc_62_144 rfl rfl ?_
                  by_cases c120 : r98.toInt ≤ r52.toInt
                  · refine xi_cmt (pc' := 153) kc_62_146 rfl (xc_ge_t (X := r52.toInt) (Y := r98.toInt) rfl rfl (by omega)) ?_
                    refine xi_iconst (pc' := 154) (v := 0) kc_62_153 rfl rfl ?_
                    refine xi_ireturn kc_62_154 mr_62 rfl ?_
                    have zc0 : (0 : Int32).toInt = 0 := by decide
                    exact kk 0 hh99 K101
                  · refine xi_cmf (pc' := 149) kc_62_146 rfl (xc_ge_f (X := r52.toInt) (Y := r98.toInt) rfl rfl (by omega)) ?_
                    refine xi_iconst (pc' := 150) (v := 1) kc_62_149 rfl rfl ?_
                    refine xi_goto (pc' := 154) kc_62_150 rfl ?_
                    refine xi_ireturn kc_62_154 mr_62 rfl ?_
                    have zc1 : (1 : Int32).toInt = 1 := by decide
                    exact kk 1 hh99 K101
          · refine xi_cmf (pc' := 54) kc_62_51 rfl (xc_le_f (X := v44.toInt) (Y := u2.toInt) rfl rfl (by omega)) ?_
            refine xi_aload_n (pc' := 55) (x := 115) kc_62_54 rfl rfl ?_
            refine xi_bipush (pc' := 57) (v := (-3)) kc_62_55 rfl rfl ?_
            refine xi_virtual (mj := 12) (as := [.int (-3)]) (st1 := []) (lv0 := [(0, .ref 115), (1, .int (-3))]) kc_62_57 rfl rfl rfl rfl rfl eh15.1 (Nat.le_of_ble_eq_true rfl) (hJ _ _ _ _ (by decide)) (xm_le ml_12 rfl) rfl ?_
            refine xi_aload_n (pc' := 1) (x := 115) kc_12_0 rfl rfl ?_
            refine xi_getfield (pc' := 4) (v := .ref 140) kc_12_1 rfl rfl rfl eh15.1 rfl ?_
            refine xi_iload_n (pc' := 5) (x := (-3)) kc_12_4 rfl rfl ?_
            refine xi_ineg (pc' := 6) (v := 3) kc_12_5 rfl rfl ?_
            refine xi_dup2 (pc' := 7) kc_12_6 rfl ⟨rfl, rfl⟩ ?_
            refine xcps4 (xk_arr K17.1 xD_140) (fun y121 A121 hy121 ry121 => ?_)
            refine xcps4 (xj_get hy121 ry121 (i := 3) (by decide) (by decide)) (fun v122 ev122 bv122 dv122 => ?_)
            refine xi_iaload (pc' := 8) (v := v122) kc_12_7 rfl A121 (by decide) rfl (xi_in (by decide) (by rw [hy121]; decide)) ev122 ?_
            refine xi_iconst (pc' := 9) (v := 1) kc_12_8 rfl rfl ?_
            refine xcps2 (α := Int32) ((v122 : Int32) + 1) (fun v123 ev123 => ?_)
            have rv123 := xc_rng v123
            refine xi_iadd (pc' := 10) (v := v123) kc_12_9 rfl ev123 ?_
            refine xcps4 (xj_set (v := v123) hy121 ry121 3 (by first | omega | decide) (by first | omega | decide)) (fun y124 s124 hy124 ry124 => ?_)
            refine xi_iastore (pc' := 11) (x' := y124) kc_12_10 rfl A121 rfl (xi_in (by decide) (by rw [hy121]; decide)) s124 (fun hh124 eh124 => ?_)
            have K125 := xk_pa K17 (xk_wa rfl) xD_140 hy124 ry124 eh124
            refine xi_iload_n (pc' := 12) (x := (-3)) kc_12_11 rfl rfl ?_
            refine xi_ireturn kc_12_12 mr_12 rfl ?_
            show xw J ov (d + 2) 62 (60, [(0, .ref 115), (1, .int x1), (2, .int x2)], [.int (-3)], hh124) _
            refine xi_ireturn kc_62_60 mr_62 rfl ?_
            have zcm3 : ((-3) : Int32).toInt = (-3) := by decide
            exact kk (-3) hh124 K125
set_option maxHeartbeats 4000000 in
theorem mt_64_0 {J : xe_J} {ov : List (List Int32)} (hJ : ∀ d mj as h, mj ≠ xe_loff → J d mj as h = none) (hov1 : ov[1]? = some [10, 0, 0, 0, 0, 0]) (hov2 : ov[2]? = some [99, 30, 50, 50, 1, 99999]) {d : Nat} {Q : Option Value → xe_H → Prop} {h : xe_H} {x1 : Int32} {x2 : Int32} {x3 : Int32} {x4 : Int32} (T : xt h) (kk : (∀ (r : Int32) (h' : xe_H), ((-2) ≤ r.toInt ∧ r.toInt ≤ 2) → xk [(0, 9), (115, 1), (83, 0), (29, 0), (31, 0), (33, 0), (35, 0), (37, 0), (39, 0), (41, 0), (43, 0), (45, 0), (47, 0), (49, 0), (51, 0), (125, 0), (66, 8), (115, 18), (71, 0), (132, 0)] h h' → Q (some (.int r)) h')) : xw J ov (d + 1) 64 (0, [(0, .ref 115), (1, .int x1), (2, .int x2), (3, .int x3), (4, .int x4)], [], h) Q := by
  have K : xk [(0, 9), (115, 1), (83, 0), (29, 0), (31, 0), (33, 0), (35, 0), (37, 0), (39, 0), (41, 0), (43, 0), (45, 0), (47, 0), (49, 0), (51, 0), (125, 0), (66, 8), (115, 18), (71, 0), (132, 0)] h h := xk_re T
  have rx1 := xc_rng x1
  have rx2 := xc_rng x2
  have rx3 := xc_rng x3
  have rx4 := xc_rng x4
  refine xi_aload_n (pc' := 1) (x := 115) kc_64_0 rfl rfl ?_
  refine xi_iconst (pc' := 2) (v := 0) kc_64_1 rfl rfl ?_
  refine xp_115 K.1 (fun u1 u2 u3 u4 u5 u6 u7 u8 u9 u10 u11 u12 u13 bu1 bu2 bu3 bu4 bu5 bu6 bu7 bu8 bu9 bu10 bu11 bu12 bu13 A14 => ?_)
  refine xi_putfield (pc' := 5) (fs' := [.int 0, .int u2, .ref 116, .ref 117, .ref 118, .ref 119, .ref 120, .ref 121, .ref 122, .ref 123, .ref 124, .ref 125, .ref 126, .ref 127, .ref 128, .ref 129, .int u3, .ref 130, .int u4, .ref 131, .ref 132, .ref 133, .ref 134, .int u5, .ref 135, .ref 136, .ref 137, .ref 138, .ref 139, .ref 140, .ref 141, .ref 142, .int u6, .int u7, .int u8, .ref 143, .ref 144, .ref 145, .ref 146, .ref 147, .ref 148, .int u9, .ref 149, .ref 150, .ref 151, .int u10, .ref 152, .ref 153, .ref 154, .ref 155, .ref 156, .ref 157, .ref 158, .ref 159, .int u11, .ref 160, .int u12, .ref 161, .ref 162, .ref 163, .ref 164, .int u13, .ref 165, .ref 166]) kc_64_2 rfl rfl rfl A14 rfl rfl rfl (Nat.le_of_ble_eq_true rfl) rfl (fun hh16 eh15 => ?_)
  have K17 := xk_pf (k := 0) (v := 0) K (xk_wf rfl) xD_115 A14 rfl (by first | omega | decide) (by first | omega | decide) eh15 rfl
  refine xi_iload_n (pc' := 6) (x := x1) kc_64_5 rfl rfl ?_
  refine xi_iconst (pc' := 7) (v := 0) kc_64_6 rfl rfl ?_
  refine xi_bipush (pc' := 9) (v := 23) kc_64_7 rfl rfl ?_
  refine xi_static (mj := 11) (as := [.int x1, .int 0, .int 23]) (st1 := []) (lv0 := [(0, .int x1), (1, .int 0), (2, .int 23)]) kc_64_9 rfl rfl (Nat.le_of_ble_eq_true rfl) rfl rfl (Nat.le_of_ble_eq_true rfl) (hJ _ _ _ _ (by decide)) (xm_le ml_11 rfl) rfl ?_
  refine xi_iload_n (pc' := 1) (x := x1) kc_11_0 rfl rfl ?_
  refine xi_iload_n (pc' := 2) (x := 0) kc_11_1 rfl rfl ?_
  by_cases c18 : x1.toInt < 0
  · refine xi_cmt (pc' := 14) kc_11_2 rfl (xc_lt_t (X := x1.toInt) (Y := 0) rfl (by decide) (by omega)) ?_
    refine xi_iconst (pc' := 15) (v := 0) kc_11_14 rfl rfl ?_
    refine xi_ireturn kc_11_15 mr_11 rfl ?_
    show xw J ov (d + 1) 64 (12, [(0, .ref 115), (1, .int x1), (2, .int x2), (3, .int x3), (4, .int x4)], [.int 0], hh16) _
    refine xi_ift (pc' := 33) kc_64_12 rfl rfl ?_
    refine xi_aload_n (pc' := 34) (x := 115) kc_64_33 rfl rfl ?_
    refine xi_iconst (pc' := 35) (v := (-1)) kc_64_34 rfl rfl ?_
    refine xi_virtual (mj := 12) (as := [.int (-1)]) (st1 := []) (lv0 := [(0, .ref 115), (1, .int (-1))]) kc_64_35 rfl rfl rfl rfl rfl eh15.1 (Nat.le_of_ble_eq_true rfl) (hJ _ _ _ _ (by decide)) (xm_le ml_12 rfl) rfl ?_
    refine xi_aload_n (pc' := 1) (x := 115) kc_12_0 rfl rfl ?_
    refine xi_getfield (pc' := 4) (v := .ref 140) kc_12_1 rfl rfl rfl eh15.1 rfl ?_
    refine xi_iload_n (pc' := 5) (x := (-1)) kc_12_4 rfl rfl ?_
    refine xi_ineg (pc' := 6) (v := 1) kc_12_5 rfl rfl ?_
    refine xi_dup2 (pc' := 7) kc_12_6 rfl ⟨rfl, rfl⟩ ?_
    refine xcps4 (xk_arr K17.1 xD_140) (fun y19 A19 hy19 ry19 => ?_)
    refine xcps4 (xj_get hy19 ry19 (i := 1) (by decide) (by decide)) (fun v20 ev20 bv20 dv20 => ?_)
    refine xi_iaload (pc' := 8) (v := v20) kc_12_7 rfl A19 (by decide) rfl (xi_in (by decide) (by rw [hy19]; decide)) ev20 ?_
    refine xi_iconst (pc' := 9) (v := 1) kc_12_8 rfl rfl ?_
    refine xcps2 (α := Int32) ((v20 : Int32) + 1) (fun v21 ev21 => ?_)
    have rv21 := xc_rng v21
    refine xi_iadd (pc' := 10) (v := v21) kc_12_9 rfl ev21 ?_
    refine xcps4 (xj_set (v := v21) hy19 ry19 1 (by first | omega | decide) (by first | omega | decide)) (fun y22 s22 hy22 ry22 => ?_)
    refine xi_iastore (pc' := 11) (x' := y22) kc_12_10 rfl A19 rfl (xi_in (by decide) (by rw [hy19]; decide)) s22 (fun hh22 eh22 => ?_)
    have K23 := xk_pa K17 (xk_wa rfl) xD_140 hy22 ry22 eh22
    refine xi_iload_n (pc' := 12) (x := (-1)) kc_12_11 rfl rfl ?_
    refine xi_ireturn kc_12_12 mr_12 rfl ?_
    show xw J ov (d + 1) 64 (38, [(0, .ref 115), (1, .int x1), (2, .int x2), (3, .int x3), (4, .int x4)], [.int (-1)], hh22) _
    refine xi_ireturn kc_64_38 mr_64 rfl ?_
    have zcm1 : ((-1) : Int32).toInt = (-1) := by decide
    exact kk (-1) hh22 (by omega) K23
  · refine xi_cmf (pc' := 5) kc_11_2 rfl (xc_lt_f (X := x1.toInt) (Y := 0) rfl (by decide) (by omega)) ?_
    refine xi_iload_n (pc' := 6) (x := x1) kc_11_5 rfl rfl ?_
    refine xi_iload_n (pc' := 7) (x := 23) kc_11_6 rfl rfl ?_
    by_cases c24 : 23 < x1.toInt
    · refine xi_cmt (pc' := 14) kc_11_7 rfl (xc_gt_t (X := x1.toInt) (Y := 23) rfl (by decide) (by omega)) ?_
      refine xi_iconst (pc' := 15) (v := 0) kc_11_14 rfl rfl ?_
      refine xi_ireturn kc_11_15 mr_11 rfl ?_
      show xw J ov (d + 1) 64 (12, [(0, .ref 115), (1, .int x1), (2, .int x2), (3, .int x3), (4, .int x4)], [.int 0], hh16) _
      refine xi_ift (pc' := 33) kc_64_12 rfl rfl ?_
      refine xi_aload_n (pc' := 34) (x := 115) kc_64_33 rfl rfl ?_
      refine xi_iconst (pc' := 35) (v := (-1)) kc_64_34 rfl rfl ?_
      refine xi_virtual (mj := 12) (as := [.int (-1)]) (st1 := []) (lv0 := [(0, .ref 115), (1, .int (-1))]) kc_64_35 rfl rfl rfl rfl rfl eh15.1 (Nat.le_of_ble_eq_true rfl) (hJ _ _ _ _ (by decide)) (xm_le ml_12 rfl) rfl ?_
      refine xi_aload_n (pc' := 1) (x := 115) kc_12_0 rfl rfl ?_
      refine xi_getfield (pc' := 4) (v := .ref 140) kc_12_1 rfl rfl rfl eh15.1 rfl ?_
      refine xi_iload_n (pc' := 5) (x := (-1)) kc_12_4 rfl rfl ?_
      refine xi_ineg (pc' := 6) (v := 1) kc_12_5 rfl rfl ?_
      refine xi_dup2 (pc' := 7) kc_12_6 rfl ⟨rfl, rfl⟩ ?_
      refine xcps4 (xk_arr K17.1 xD_140) (fun y25 A25 hy25 ry25 => ?_)
      refine xcps4 (xj_get hy25 ry25 (i := 1) (by decide) (by decide)) (fun v26 ev26 bv26 dv26 => ?_)
      refine xi_iaload (pc' := 8) (v := v26) kc_12_7 rfl A25 (by decide) rfl (xi_in (by decide) (by rw [hy25]; decide)) ev26 ?_
      refine xi_iconst (pc' := 9) (v := 1) kc_12_8 rfl rfl ?_
      refine xcps2 (α := Int32) ((v26 : Int32) + 1) (fun v27 ev27 => ?_)
      have rv27 := xc_rng v27
      refine xi_iadd (pc' := 10) (v := v27) kc_12_9 rfl ev27 ?_
      refine xcps4 (xj_set (v := v27) hy25 ry25 1 (by first | omega | decide) (by first | omega | decide)) (fun y28 s28 hy28 ry28 => ?_)
      refine xi_iastore (pc' := 11) (x' := y28) kc_12_10 rfl A25 rfl (xi_in (by decide) (by rw [hy25]; decide)) s28 (fun hh28 eh28 => ?_)
      have K29 := xk_pa K17 (xk_wa rfl) xD_140 hy28 ry28 eh28
      refine xi_iload_n (pc' := 12) (x := (-1)) kc_12_11 rfl rfl ?_
      refine xi_ireturn kc_12_12 mr_12 rfl ?_
      show xw J ov (d + 1) 64 (38, [(0, .ref 115), (1, .int x1), (2, .int x2), (3, .int x3), (4, .int x4)], [.int (-1)], hh28) _
      refine xi_ireturn kc_64_38 mr_64 rfl ?_
      have zcm1 : ((-1) : Int32).toInt = (-1) := by decide
      exact kk (-1) hh28 (by omega) K29
    · refine xi_cmf (pc' := 10) kc_11_7 rfl (xc_gt_f (X := x1.toInt) (Y := 23) rfl (by decide) (by omega)) ?_
      refine xi_iconst (pc' := 11) (v := 1) kc_11_10 rfl rfl ?_
      refine xi_goto (pc' := 15) kc_11_11 rfl ?_
      refine xi_ireturn kc_11_15 mr_11 rfl ?_
      show xw J ov (d + 1) 64 (12, [(0, .ref 115), (1, .int x1), (2, .int x2), (3, .int x3), (4, .int x4)], [.int 1], hh16) _
      refine xi_iff (pc' := 15) kc_64_12 rfl rfl ?_
      refine xi_iload_n (pc' := 16) (x := x2) kc_64_15 rfl rfl ?_
      refine xi_iconst (pc' := 17) (v := 0) kc_64_16 rfl rfl ?_
      refine xi_iconst (pc' := 18) (v := 3) kc_64_17 rfl rfl ?_
      refine xi_static (mj := 11) (as := [.int x2, .int 0, .int 3]) (st1 := []) (lv0 := [(0, .int x2), (1, .int 0), (2, .int 3)]) kc_64_18 rfl rfl (Nat.le_of_ble_eq_true rfl) rfl rfl (Nat.le_of_ble_eq_true rfl) (hJ _ _ _ _ (by decide)) (xm_le ml_11 rfl) rfl ?_
      refine xi_iload_n (pc' := 1) (x := x2) kc_11_0 rfl rfl ?_
      refine xi_iload_n (pc' := 2) (x := 0) kc_11_1 rfl rfl ?_
      by_cases c30 : x2.toInt < 0
      · refine xi_cmt (pc' := 14) kc_11_2 rfl (xc_lt_t (X := x2.toInt) (Y := 0) rfl (by decide) (by omega)) ?_
        refine xi_iconst (pc' := 15) (v := 0) kc_11_14 rfl rfl ?_
        refine xi_ireturn kc_11_15 mr_11 rfl ?_
        show xw J ov (d + 1) 64 (21, [(0, .ref 115), (1, .int x1), (2, .int x2), (3, .int x3), (4, .int x4)], [.int 0], hh16) _
        refine xi_ift (pc' := 33) kc_64_21 rfl rfl ?_
        refine xi_aload_n (pc' := 34) (x := 115) kc_64_33 rfl rfl ?_
        refine xi_iconst (pc' := 35) (v := (-1)) kc_64_34 rfl rfl ?_
        refine xi_virtual (mj := 12) (as := [.int (-1)]) (st1 := []) (lv0 := [(0, .ref 115), (1, .int (-1))]) kc_64_35 rfl rfl rfl rfl rfl eh15.1 (Nat.le_of_ble_eq_true rfl) (hJ _ _ _ _ (by decide)) (xm_le ml_12 rfl) rfl ?_
        refine xi_aload_n (pc' := 1) (x := 115) kc_12_0 rfl rfl ?_
        refine xi_getfield (pc' := 4) (v := .ref 140) kc_12_1 rfl rfl rfl eh15.1 rfl ?_
        refine xi_iload_n (pc' := 5) (x := (-1)) kc_12_4 rfl rfl ?_
        refine xi_ineg (pc' := 6) (v := 1) kc_12_5 rfl rfl ?_
        refine xi_dup2 (pc' := 7) kc_12_6 rfl ⟨rfl, rfl⟩ ?_
        refine xcps4 (xk_arr K17.1 xD_140) (fun y31 A31 hy31 ry31 => ?_)
        refine xcps4 (xj_get hy31 ry31 (i := 1) (by decide) (by decide)) (fun v32 ev32 bv32 dv32 => ?_)
        refine xi_iaload (pc' := 8) (v := v32) kc_12_7 rfl A31 (by decide) rfl (xi_in (by decide) (by rw [hy31]; decide)) ev32 ?_
        refine xi_iconst (pc' := 9) (v := 1) kc_12_8 rfl rfl ?_
        refine xcps2 (α := Int32) ((v32 : Int32) + 1) (fun v33 ev33 => ?_)
        have rv33 := xc_rng v33
        refine xi_iadd (pc' := 10) (v := v33) kc_12_9 rfl ev33 ?_
        refine xcps4 (xj_set (v := v33) hy31 ry31 1 (by first | omega | decide) (by first | omega | decide)) (fun y34 s34 hy34 ry34 => ?_)
        refine xi_iastore (pc' := 11) (x' := y34) kc_12_10 rfl A31 rfl (xi_in (by decide) (by rw [hy31]; decide)) s34 (fun hh34 eh34 => ?_)
        have K35 := xk_pa K17 (xk_wa rfl) xD_140 hy34 ry34 eh34
        refine xi_iload_n (pc' := 12) (x := (-1)) kc_12_11 rfl rfl ?_
        refine xi_ireturn kc_12_12 mr_12 rfl ?_
        show xw J ov (d + 1) 64 (38, [(0, .ref 115), (1, .int x1), (2, .int x2), (3, .int x3), (4, .int x4)], [.int (-1)], hh34) _
        refine xi_ireturn kc_64_38 mr_64 rfl ?_
        have zcm1 : ((-1) : Int32).toInt = (-1) := by decide
        exact kk (-1) hh34 (by omega) K35
      · refine xi_cmf (pc' := 5) kc_11_2 rfl (xc_lt_f (X := x2.toInt) (Y := 0) rfl (by decide) (by omega)) ?_
        refine xi_iload_n (pc' := 6) (x := x2) kc_11_5 rfl rfl ?_
        refine xi_iload_n (pc' := 7) (x := 3) kc_11_6 rfl rfl ?_
        by_cases c36 : 3 < x2.toInt
        · refine xi_cmt (pc' := 14) kc_11_7 rfl (xc_gt_t (X := x2.toInt) (Y := 3) rfl (by decide) (by omega)) ?_
          refine xi_iconst (pc' := 15) (v := 0) kc_11_14 rfl rfl ?_
          refine xi_ireturn kc_11_15 mr_11 rfl ?_
          show xw J ov (d + 1) 64 (21, [(0, .ref 115), (1, .int x1), (2, .int x2), (3, .int x3), (4, .int x4)], [.int 0], hh16) _
          refine xi_ift (pc' := 33) kc_64_21 rfl rfl ?_
          refine xi_aload_n (pc' := 34) (x := 115) kc_64_33 rfl rfl ?_
          refine xi_iconst (pc' := 35) (v := (-1)) kc_64_34 rfl rfl ?_
          refine xi_virtual (mj := 12) (as := [.int (-1)]) (st1 := []) (lv0 := [(0, .ref 115), (1, .int (-1))]) kc_64_35 rfl rfl rfl rfl rfl eh15.1 (Nat.le_of_ble_eq_true rfl) (hJ _ _ _ _ (by decide)) (xm_le ml_12 rfl) rfl ?_
          refine xi_aload_n (pc' := 1) (x := 115) kc_12_0 rfl rfl ?_
          refine xi_getfield (pc' := 4) (v := .ref 140) kc_12_1 rfl rfl rfl eh15.1 rfl ?_
          refine xi_iload_n (pc' := 5) (x := (-1)) kc_12_4 rfl rfl ?_
          refine xi_ineg (pc' := 6) (v := 1) kc_12_5 rfl rfl ?_
          refine xi_dup2 (pc' := 7) kc_12_6 rfl ⟨rfl, rfl⟩ ?_
          refine xcps4 (xk_arr K17.1 xD_140) (fun y37 A37 hy37 ry37 => ?_)
          refine xcps4 (xj_get hy37 ry37 (i := 1) (by decide) (by decide)) (fun v38 ev38 bv38 dv38 => ?_)
          refine xi_iaload (pc' := 8) (v := v38) kc_12_7 rfl A37 (by decide) rfl (xi_in (by decide) (by rw [hy37]; decide)) ev38 ?_
          refine xi_iconst (pc' := 9) (v := 1) kc_12_8 rfl rfl ?_
          refine xcps2 (α := Int32) ((v38 : Int32) + 1) (fun v39 ev39 => ?_)
          have rv39 := xc_rng v39
          refine xi_iadd (pc' := 10) (v := v39) kc_12_9 rfl ev39 ?_
          refine xcps4 (xj_set (v := v39) hy37 ry37 1 (by first | omega | decide) (by first | omega | decide)) (fun y40 s40 hy40 ry40 => ?_)
          refine xi_iastore (pc' := 11) (x' := y40) kc_12_10 rfl A37 rfl (xi_in (by decide) (by rw [hy37]; decide)) s40 (fun hh40 eh40 => ?_)
          have K41 := xk_pa K17 (xk_wa rfl) xD_140 hy40 ry40 eh40
          refine xi_iload_n (pc' := 12) (x := (-1)) kc_12_11 rfl rfl ?_
          refine xi_ireturn kc_12_12 mr_12 rfl ?_
          show xw J ov (d + 1) 64 (38, [(0, .ref 115), (1, .int x1), (2, .int x2), (3, .int x3), (4, .int x4)], [.int (-1)], hh40) _
          refine xi_ireturn kc_64_38 mr_64 rfl ?_
          have zcm1 : ((-1) : Int32).toInt = (-1) := by decide
          exact kk (-1) hh40 (by omega) K41
        · refine xi_cmf (pc' := 10) kc_11_7 rfl (xc_gt_f (X := x2.toInt) (Y := 3) rfl (by decide) (by omega)) ?_
          refine xi_iconst (pc' := 11) (v := 1) kc_11_10 rfl rfl ?_
          refine xi_goto (pc' := 15) kc_11_11 rfl ?_
          refine xi_ireturn kc_11_15 mr_11 rfl ?_
          show xw J ov (d + 1) 64 (21, [(0, .ref 115), (1, .int x1), (2, .int x2), (3, .int x3), (4, .int x4)], [.int 1], hh16) _
          refine xi_iff (pc' := 24) kc_64_21 rfl rfl ?_
          refine xi_iload_n (pc' := 25) (x := x3) kc_64_24 rfl rfl ?_
          refine xi_iconst (pc' := 26) (v := 0) kc_64_25 rfl rfl ?_
          refine xi_iconst (pc' := 27) (v := 5) kc_64_26 rfl rfl ?_
          refine xi_static (mj := 11) (as := [.int x3, .int 0, .int 5]) (st1 := []) (lv0 := [(0, .int x3), (1, .int 0), (2, .int 5)]) kc_64_27 rfl rfl (Nat.le_of_ble_eq_true rfl) rfl rfl (Nat.le_of_ble_eq_true rfl) (hJ _ _ _ _ (by decide)) (xm_le ml_11 rfl) rfl ?_
          refine xi_iload_n (pc' := 1) (x := x3) kc_11_0 rfl rfl ?_
          refine xi_iload_n (pc' := 2) (x := 0) kc_11_1 rfl rfl ?_
          by_cases c42 : x3.toInt < 0
          · refine xi_cmt (pc' := 14) kc_11_2 rfl (xc_lt_t (X := x3.toInt) (Y := 0) rfl (by decide) (by omega)) ?_
            refine xi_iconst (pc' := 15) (v := 0) kc_11_14 rfl rfl ?_
            refine xi_ireturn kc_11_15 mr_11 rfl ?_
            show xw J ov (d + 1) 64 (30, [(0, .ref 115), (1, .int x1), (2, .int x2), (3, .int x3), (4, .int x4)], [.int 0], hh16) _
            refine xi_iff (pc' := 33) kc_64_30 rfl rfl ?_
            refine xi_aload_n (pc' := 34) (x := 115) kc_64_33 rfl rfl ?_
            refine xi_iconst (pc' := 35) (v := (-1)) kc_64_34 rfl rfl ?_
            refine xi_virtual (mj := 12) (as := [.int (-1)]) (st1 := []) (lv0 := [(0, .ref 115), (1, .int (-1))]) kc_64_35 rfl rfl rfl rfl rfl eh15.1 (Nat.le_of_ble_eq_true rfl) (hJ _ _ _ _ (by decide)) (xm_le ml_12 rfl) rfl ?_
            refine xi_aload_n (pc' := 1) (x := 115) kc_12_0 rfl rfl ?_
            refine xi_getfield (pc' := 4) (v := .ref 140) kc_12_1 rfl rfl rfl eh15.1 rfl ?_
            refine xi_iload_n (pc' := 5) (x := (-1)) kc_12_4 rfl rfl ?_
            refine xi_ineg (pc' := 6) (v := 1) kc_12_5 rfl rfl ?_
            refine xi_dup2 (pc' := 7) kc_12_6 rfl ⟨rfl, rfl⟩ ?_
            refine xcps4 (xk_arr K17.1 xD_140) (fun y43 A43 hy43 ry43 => ?_)
            refine xcps4 (xj_get hy43 ry43 (i := 1) (by decide) (by decide)) (fun v44 ev44 bv44 dv44 => ?_)
            refine xi_iaload (pc' := 8) (v := v44) kc_12_7 rfl A43 (by decide) rfl (xi_in (by decide) (by rw [hy43]; decide)) ev44 ?_
            refine xi_iconst (pc' := 9) (v := 1) kc_12_8 rfl rfl ?_
            refine xcps2 (α := Int32) ((v44 : Int32) + 1) (fun v45 ev45 => ?_)
            have rv45 := xc_rng v45
            refine xi_iadd (pc' := 10) (v := v45) kc_12_9 rfl ev45 ?_
            refine xcps4 (xj_set (v := v45) hy43 ry43 1 (by first | omega | decide) (by first | omega | decide)) (fun y46 s46 hy46 ry46 => ?_)
            refine xi_iastore (pc' := 11) (x' := y46) kc_12_10 rfl A43 rfl (xi_in (by decide) (by rw [hy43]; decide)) s46 (fun hh46 eh46 => ?_)
            have K47 := xk_pa K17 (xk_wa rfl) xD_140 hy46 ry46 eh46
            refine xi_iload_n (pc' := 12) (x := (-1)) kc_12_11 rfl rfl ?_
            refine xi_ireturn kc_12_12 mr_12 rfl ?_
            show xw J ov (d + 1) 64 (38, [(0, .ref 115), (1, .int x1), (2, .int x2), (3, .int x3), (4, .int x4)], [.int (-1)], hh46) _
            refine xi_ireturn kc_64_38 mr_64 rfl ?_
            have zcm1 : ((-1) : Int32).toInt = (-1) := by decide
            exact kk (-1) hh46 (by omega) K47
          · refine xi_cmf (pc' := 5) kc_11_2 rfl (xc_lt_f (X := x3.toInt) (Y := 0) rfl (by decide) (by omega)) ?_
            refine xi_iload_n (pc' := 6) (x := x3) kc_11_5 rfl rfl ?_
            refine xi_iload_n (pc' := 7) (x := 5) kc_11_6 rfl rfl ?_
            by_cases c48 : 5 < x3.toInt
            · refine xi_cmt (pc' := 14) kc_11_7 rfl (xc_gt_t (X := x3.toInt) (Y := 5) rfl (by decide) (by omega)) ?_
              refine xi_iconst (pc' := 15) (v := 0) kc_11_14 rfl rfl ?_
              refine xi_ireturn kc_11_15 mr_11 rfl ?_
              show xw J ov (d + 1) 64 (30, [(0, .ref 115), (1, .int x1), (2, .int x2), (3, .int x3), (4, .int x4)], [.int 0], hh16) _
              refine xi_iff (pc' := 33) kc_64_30 rfl rfl ?_
              refine xi_aload_n (pc' := 34) (x := 115) kc_64_33 rfl rfl ?_
              refine xi_iconst (pc' := 35) (v := (-1)) kc_64_34 rfl rfl ?_
              refine xi_virtual (mj := 12) (as := [.int (-1)]) (st1 := []) (lv0 := [(0, .ref 115), (1, .int (-1))]) kc_64_35 rfl rfl rfl rfl rfl eh15.1 (Nat.le_of_ble_eq_true rfl) (hJ _ _ _ _ (by decide)) (xm_le ml_12 rfl) rfl ?_
              refine xi_aload_n (pc' := 1) (x := 115) kc_12_0 rfl rfl ?_
              refine xi_getfield (pc' := 4) (v := .ref 140) kc_12_1 rfl rfl rfl eh15.1 rfl ?_
              refine xi_iload_n (pc' := 5) (x := (-1)) kc_12_4 rfl rfl ?_
              refine xi_ineg (pc' := 6) (v := 1) kc_12_5 rfl rfl ?_
              refine xi_dup2 (pc' := 7) kc_12_6 rfl ⟨rfl, rfl⟩ ?_
              refine xcps4 (xk_arr K17.1 xD_140) (fun y49 A49 hy49 ry49 => ?_)
              refine xcps4 (xj_get hy49 ry49 (i := 1) (by decide) (by decide)) (fun v50 ev50 bv50 dv50 => ?_)
              refine xi_iaload (pc' := 8) (v := v50) kc_12_7 rfl A49 (by decide) rfl (xi_in (by decide) (by rw [hy49]; decide)) ev50 ?_
              refine xi_iconst (pc' := 9) (v := 1) kc_12_8 rfl rfl ?_
              refine xcps2 (α := Int32) ((v50 : Int32) + 1) (fun v51 ev51 => ?_)
              have rv51 := xc_rng v51
              refine xi_iadd (pc' := 10) (v := v51) kc_12_9 rfl ev51 ?_
              refine xcps4 (xj_set (v := v51) hy49 ry49 1 (by first | omega | decide) (by first | omega | decide)) (fun y52 s52 hy52 ry52 => ?_)
              refine xi_iastore (pc' := 11) (x' := y52) kc_12_10 rfl A49 rfl (xi_in (by decide) (by rw [hy49]; decide)) s52 (fun hh52 eh52 => ?_)
              have K53 := xk_pa K17 (xk_wa rfl) xD_140 hy52 ry52 eh52
              refine xi_iload_n (pc' := 12) (x := (-1)) kc_12_11 rfl rfl ?_
              refine xi_ireturn kc_12_12 mr_12 rfl ?_
              show xw J ov (d + 1) 64 (38, [(0, .ref 115), (1, .int x1), (2, .int x2), (3, .int x3), (4, .int x4)], [.int (-1)], hh52) _
              refine xi_ireturn kc_64_38 mr_64 rfl ?_
              have zcm1 : ((-1) : Int32).toInt = (-1) := by decide
              exact kk (-1) hh52 (by omega) K53
            · refine xi_cmf (pc' := 10) kc_11_7 rfl (xc_gt_f (X := x3.toInt) (Y := 5) rfl (by decide) (by omega)) ?_
              refine xi_iconst (pc' := 11) (v := 1) kc_11_10 rfl rfl ?_
              refine xi_goto (pc' := 15) kc_11_11 rfl ?_
              refine xi_ireturn kc_11_15 mr_11 rfl ?_
              show xw J ov (d + 1) 64 (30, [(0, .ref 115), (1, .int x1), (2, .int x2), (3, .int x3), (4, .int x4)], [.int 1], hh16) _
              refine xi_ift (pc' := 39) kc_64_30 rfl rfl ?_
              refine xi_iload (pc' := 41) (x := x4) kc_64_39 rfl rfl ?_
              refine xi_iconst (pc' := 42) (v := 0) kc_64_41 rfl rfl ?_
              refine xi_iconst (pc' := 43) (v := 2) kc_64_42 rfl rfl ?_
              refine xi_static (mj := 11) (as := [.int x4, .int 0, .int 2]) (st1 := []) (lv0 := [(0, .int x4), (1, .int 0), (2, .int 2)]) kc_64_43 rfl rfl (Nat.le_of_ble_eq_true rfl) rfl rfl (Nat.le_of_ble_eq_true rfl) (hJ _ _ _ _ (by decide)) (xm_le ml_11 rfl) rfl ?_
              refine xi_iload_n (pc' := 1) (x := x4) kc_11_0 rfl rfl ?_
              refine xi_iload_n (pc' := 2) (x := 0) kc_11_1 rfl rfl ?_
              by_cases c54 : x4.toInt < 0
              · refine xi_cmt (pc' := 14) kc_11_2 rfl (xc_lt_t (X := x4.toInt) (Y := 0) rfl (by decide) (by omega)) ?_
                refine xi_iconst (pc' := 15) (v := 0) kc_11_14 rfl rfl ?_
                refine xi_ireturn kc_11_15 mr_11 rfl ?_
                show xw J ov (d + 1) 64 (46, [(0, .ref 115), (1, .int x1), (2, .int x2), (3, .int x3), (4, .int x4)], [.int 0], hh16) _
                refine xi_iff (pc' := 49) kc_64_46 rfl rfl ?_
                refine xi_aload_n (pc' := 50) (x := 115) kc_64_49 rfl rfl ?_
                refine xi_bipush (pc' := 52) (v := (-2)) kc_64_50 rfl rfl ?_
                refine xi_virtual (mj := 12) (as := [.int (-2)]) (st1 := []) (lv0 := [(0, .ref 115), (1, .int (-2))]) kc_64_52 rfl rfl rfl rfl rfl eh15.1 (Nat.le_of_ble_eq_true rfl) (hJ _ _ _ _ (by decide)) (xm_le ml_12 rfl) rfl ?_
                refine xi_aload_n (pc' := 1) (x := 115) kc_12_0 rfl rfl ?_
                refine xi_getfield (pc' := 4) (v := .ref 140) kc_12_1 rfl rfl rfl eh15.1 rfl ?_
                refine xi_iload_n (pc' := 5) (x := (-2)) kc_12_4 rfl rfl ?_
                refine xi_ineg (pc' := 6) (v := 2) kc_12_5 rfl rfl ?_
                refine xi_dup2 (pc' := 7) kc_12_6 rfl ⟨rfl, rfl⟩ ?_
                refine xcps4 (xk_arr K17.1 xD_140) (fun y55 A55 hy55 ry55 => ?_)
                refine xcps4 (xj_get hy55 ry55 (i := 2) (by decide) (by decide)) (fun v56 ev56 bv56 dv56 => ?_)
                refine xi_iaload (pc' := 8) (v := v56) kc_12_7 rfl A55 (by decide) rfl (xi_in (by decide) (by rw [hy55]; decide)) ev56 ?_
                refine xi_iconst (pc' := 9) (v := 1) kc_12_8 rfl rfl ?_
                refine xcps2 (α := Int32) ((v56 : Int32) + 1) (fun v57 ev57 => ?_)
                have rv57 := xc_rng v57
                refine xi_iadd (pc' := 10) (v := v57) kc_12_9 rfl ev57 ?_
                refine xcps4 (xj_set (v := v57) hy55 ry55 2 (by first | omega | decide) (by first | omega | decide)) (fun y58 s58 hy58 ry58 => ?_)
                refine xi_iastore (pc' := 11) (x' := y58) kc_12_10 rfl A55 rfl (xi_in (by decide) (by rw [hy55]; decide)) s58 (fun hh58 eh58 => ?_)
                have K59 := xk_pa K17 (xk_wa rfl) xD_140 hy58 ry58 eh58
                refine xi_iload_n (pc' := 12) (x := (-2)) kc_12_11 rfl rfl ?_
                refine xi_ireturn kc_12_12 mr_12 rfl ?_
                show xw J ov (d + 1) 64 (55, [(0, .ref 115), (1, .int x1), (2, .int x2), (3, .int x3), (4, .int x4)], [.int (-2)], hh58) _
                refine xi_ireturn kc_64_55 mr_64 rfl ?_
                have zcm2 : ((-2) : Int32).toInt = (-2) := by decide
                exact kk (-2) hh58 (by omega) K59
              · refine xi_cmf (pc' := 5) kc_11_2 rfl (xc_lt_f (X := x4.toInt) (Y := 0) rfl (by decide) (by omega)) ?_
                refine xi_iload_n (pc' := 6) (x := x4) kc_11_5 rfl rfl ?_
                refine xi_iload_n (pc' := 7) (x := 2) kc_11_6 rfl rfl ?_
                by_cases c60 : 2 < x4.toInt
                · refine xi_cmt (pc' := 14) kc_11_7 rfl (xc_gt_t (X := x4.toInt) (Y := 2) rfl (by decide) (by omega)) ?_
                  refine xi_iconst (pc' := 15) (v := 0) kc_11_14 rfl rfl ?_
                  refine xi_ireturn kc_11_15 mr_11 rfl ?_
                  show xw J ov (d + 1) 64 (46, [(0, .ref 115), (1, .int x1), (2, .int x2), (3, .int x3), (4, .int x4)], [.int 0], hh16) _
                  refine xi_iff (pc' := 49) kc_64_46 rfl rfl ?_
                  refine xi_aload_n (pc' := 50) (x := 115) kc_64_49 rfl rfl ?_
                  refine xi_bipush (pc' := 52) (v := (-2)) kc_64_50 rfl rfl ?_
                  refine xi_virtual (mj := 12) (as := [.int (-2)]) (st1 := []) (lv0 := [(0, .ref 115), (1, .int (-2))]) kc_64_52 rfl rfl rfl rfl rfl eh15.1 (Nat.le_of_ble_eq_true rfl) (hJ _ _ _ _ (by decide)) (xm_le ml_12 rfl) rfl ?_
                  refine xi_aload_n (pc' := 1) (x := 115) kc_12_0 rfl rfl ?_
                  refine xi_getfield (pc' := 4) (v := .ref 140) kc_12_1 rfl rfl rfl eh15.1 rfl ?_
                  refine xi_iload_n (pc' := 5) (x := (-2)) kc_12_4 rfl rfl ?_
                  refine xi_ineg (pc' := 6) (v := 2) kc_12_5 rfl rfl ?_
                  refine xi_dup2 (pc' := 7) kc_12_6 rfl ⟨rfl, rfl⟩ ?_
                  refine xcps4 (xk_arr K17.1 xD_140) (fun y61 A61 hy61 ry61 => ?_)
                  refine xcps4 (xj_get hy61 ry61 (i := 2) (by decide) (by decide)) (fun v62 ev62 bv62 dv62 => ?_)
                  refine xi_iaload (pc' := 8) (v := v62) kc_12_7 rfl A61 (by decide) rfl (xi_in (by decide) (by rw [hy61]; decide)) ev62 ?_
                  refine xi_iconst (pc' := 9) (v := 1) kc_12_8 rfl rfl ?_
                  refine xcps2 (α := Int32) ((v62 : Int32) + 1) (fun v63 ev63 => ?_)
                  have rv63 := xc_rng v63
                  refine xi_iadd (pc' := 10) (v := v63) kc_12_9 rfl ev63 ?_
                  refine xcps4 (xj_set (v := v63) hy61 ry61 2 (by first | omega | decide) (by first | omega | decide)) (fun y64 s64 hy64 ry64 => ?_)
                  refine xi_iastore (pc' := 11) (x' := y64) kc_12_10 rfl A61 rfl (xi_in (by decide) (by rw [hy61]; decide)) s64 (fun hh64 eh64 => ?_)
                  have K65 := xk_pa K17 (xk_wa rfl) xD_140 hy64 ry64 eh64
                  refine xi_iload_n (pc' := 12) (x := (-2)) kc_12_11 rfl rfl ?_
                  refine xi_ireturn kc_12_12 mr_12 rfl ?_
                  show xw J ov (d + 1) 64 (55, [(0, .ref 115), (1, .int x1), (2, .int x2), (3, .int x3), (4, .int x4)], [.int (-2)], hh64) _
                  refine xi_ireturn kc_64_55 mr_64 rfl ?_
                  have zcm2 : ((-2) : Int32).toInt = (-2) := by decide
                  exact kk (-2) hh64 (by omega) K65
                · refine xi_cmf (pc' := 10) kc_11_7 rfl (xc_gt_f (X := x4.toInt) (Y := 2) rfl (by decide) (by omega)) ?_
                  refine xi_iconst (pc' := 11) (v := 1) kc_11_10 rfl rfl ?_
                  refine xi_goto (pc' := 15) kc_11_11 rfl ?_
                  refine xi_ireturn kc_11_15 mr_11 rfl ?_
                  show xw J ov (d + 1) 64 (46, [(0, .ref 115), (1, .int x1), (2, .int x2), (3, .int x3), (4, .int x4)], [.int 1], hh16) _
                  refine xi_ift (pc' := 56) kc_64_46 rfl rfl ?_
                  refine xi_aload_n (pc' := 57) (x := 115) kc_64_56 rfl rfl ?_
                  refine xi_getfield (pc' := 60) (v := .ref 158) kc_64_57 rfl rfl rfl eh15.1 rfl ?_
                  refine xi_iload_n (pc' := 61) (x := x1) kc_64_60 rfl rfl ?_
                  refine xcps4 (xk_arr K17.1 xD_158) (fun y66 A66 hy66 ry66 => ?_)
                  refine xcps4 (xj_get hy66 ry66 (i := x1) (by omega) (by omega)) (fun v67 ev67 bv67 dv67 => ?_)
                  refine xi_iaload (pc' := 62) (v := v67) kc_64_61 rfl A66 (by decide) rfl (xi_in (by omega) (by rw [hy66]; omega)) ev67 ?_
                  refine xi_istore (pc' := 64) (lv' := [(5, .int v67), (0, .ref 115), (1, .int x1), (2, .int x2), (3, .int x3), (4, .int x4)]) kc_64_62 rfl rfl (xm_lt ml_64 rfl) ?_
                  refine xi_aload_n (pc' := 65) (x := 115) kc_64_64 rfl rfl ?_
                  refine xi_getfield (pc' := 68) (v := .ref 156) kc_64_65 rfl rfl rfl eh15.1 rfl ?_
                  refine xi_iload_n (pc' := 69) (x := x1) kc_64_68 rfl rfl ?_
                  refine xi_iload_n (pc' := 70) (x := x2) kc_64_69 rfl rfl ?_
                  refine xcps4 (xk_arr K17.1 xD_156) (fun y68 A68 hy68 ry68 => ?_)
                  refine xcps4 (xj_set (v := x2) hy68 ry68 x1 (by first | omega | decide) (by first | omega | decide)) (fun y69 s69 hy69 ry69 => ?_)
                  refine xi_iastore (pc' := 71) (x' := y69) kc_64_70 rfl A68 rfl (xi_in (by omega) (by rw [hy68]; omega)) s69 (fun hh69 eh69 => ?_)
                  have K70 := xk_pa K17 (xk_wa rfl) xD_156 hy69 ry69 eh69
                  refine xi_aload_n (pc' := 72) (x := 115) kc_64_71 rfl rfl ?_
                  have A71 := ((eh69.2.1 115 (by decide)).trans eh15.1)
                  refine xi_getfield (pc' := 75) (v := .ref 157) kc_64_72 rfl rfl rfl A71 rfl ?_
                  refine xi_iload_n (pc' := 76) (x := x1) kc_64_75 rfl rfl ?_
                  refine xi_iload_n (pc' := 77) (x := x3) kc_64_76 rfl rfl ?_
                  refine xcps4 (xk_arr K70.1 xD_157) (fun y72 A72 hy72 ry72 => ?_)
                  refine xcps4 (xj_set (v := x3) hy72 ry72 x1 (by first | omega | decide) (by first | omega | decide)) (fun y73 s73 hy73 ry73 => ?_)
                  refine xi_iastore (pc' := 78) (x' := y73) kc_64_77 rfl A72 rfl (xi_in (by omega) (by rw [hy72]; omega)) s73 (fun hh73 eh73 => ?_)
                  have K74 := xk_pa K70 (xk_wa rfl) xD_157 hy73 ry73 eh73
                  refine xi_aload_n (pc' := 79) (x := 115) kc_64_78 rfl rfl ?_
                  have A75 := ((eh73.2.1 115 (by decide)).trans A71)
                  refine xi_getfield (pc' := 82) (v := .ref 158) kc_64_79 rfl rfl rfl A75 rfl ?_
                  refine xi_iload_n (pc' := 83) (x := x1) kc_64_82 rfl rfl ?_
                  refine xi_iload (pc' := 85) (x := x4) kc_64_83 rfl rfl ?_
                  have A76 := ((eh73.2.1 158 (by decide)).trans ((eh69.2.1 158 (by decide)).trans A66))
                  refine xcps4 (xj_set (v := x4) hy66 ry66 x1 (by first | omega | decide) (by first | omega | decide)) (fun y77 s77 hy77 ry77 => ?_)
                  refine xi_iastore (pc' := 86) (x' := y77) kc_64_85 rfl A76 rfl (xi_in (by omega) (by rw [hy66]; omega)) s77 (fun hh77 eh77 => ?_)
                  have K78 := xk_pa K74 (xk_wa rfl) xD_158 hy77 ry77 eh77
                  refine xi_iload (pc' := 88) (x := v67) kc_64_86 rfl rfl ?_
                  refine xi_ireturn kc_64_88 mr_64 rfl ?_
                  exact kk v67 hh77 (by omega) K78
set_option maxHeartbeats 4000000 in
theorem lp_66_0 {J : xe_J} {ov : List (List Int32)} (hJ : ∀ d mj as h, mj ≠ xe_loff → J d mj as h = none) (hov1 : ov[1]? = some [10, 0, 0, 0, 0, 0]) (hov2 : ov[2]? = some [99, 30, 50, 50, 1, 99999]) {d : Nat} {Q : Option Value → xe_H → Prop} {hb : xe_H} (kk : (∀ (r : Int32) (h' : xe_H), xk [(0, 9), (115, 1), (83, 0), (29, 0), (31, 0), (33, 0), (35, 0), (37, 0), (39, 0), (41, 0), (43, 0), (45, 0), (47, 0), (49, 0), (51, 0), (125, 0), (66, 8), (115, 18), (71, 0), (132, 0)] hb h' → Q (some (.int r)) h')) : ∀ m : Nat, (∀ (x1 : Int32) (x2 : Int32) (h : xe_H), (0 ≤ x2.toInt ∧ x2.toInt ≤ 24) → xk [(0, 9), (115, 1), (83, 0), (29, 0), (31, 0), (33, 0), (35, 0), (37, 0), (39, 0), (41, 0), (43, 0), (45, 0), (47, 0), (49, 0), (51, 0), (125, 0), (66, 8), (115, 18), (71, 0), (132, 0)] hb h → (-25) * x2.toInt + 624 < (m : Int) → xw J ov (d + 1) 66 (4, [(0, .ref 115), (1, .int x1), (2, .int x2)], [], h) Q) ∧ (∀ (x1 : Int32) (x2 : Int32) (x3 : Int32) (h : xe_H), (0 ≤ x2.toInt ∧ x2.toInt ≤ 23) → (0 ≤ x3.toInt ∧ x3.toInt ≤ 23) → xk [(0, 9), (115, 1), (83, 0), (29, 0), (31, 0), (33, 0), (35, 0), (37, 0), (39, 0), (41, 0), (43, 0), (45, 0), (47, 0), (49, 0), (51, 0), (125, 0), (66, 8), (115, 18), (71, 0), (132, 0)] hb h → (-25) * x2.toInt + (-1) * x3.toInt + 623 < (m : Int) → xw J ov (d + 1) 66 (12, [(0, .ref 115), (1, .int x1), (2, .int x2), (3, .int x3)], [], h) Q) := by
  intro m
  induction m with
  | zero =>
    refine ⟨?_, ?_⟩
    · intro x1 x2 h b2 K hm; have rx1 := xc_rng x1; exfalso; omega
    · intro x1 x2 x3 h b2 b3 K hm; have rx1 := xc_rng x1; exfalso; omega
  | succ m ih =>
    obtain ⟨i0, i1⟩ := ih
    refine ⟨?_, ?_⟩
    · intro x1 x2 h b2 K hm
      have rx1 := xc_rng x1
      refine xi_iload_n (pc' := 5) (x := x2) kc_66_4 rfl rfl ?_
      refine xi_bipush (pc' := 7) (v := 24) kc_66_5 rfl rfl ?_
      by_cases c1 : 24 ≤ x2.toInt
      · refine xi_cmt (pc' := 66) kc_66_7 rfl (xc_ge_t (X := x2.toInt) (Y := 24) rfl (by decide) (by omega)) ?_
        refine xi_iload_n (pc' := 67) (x := x1) kc_66_66 rfl rfl ?_
        refine xi_ireturn kc_66_67 mr_66 rfl ?_
        exact kk x1 h K
      · refine xi_cmf (pc' := 10) kc_66_7 rfl (xc_ge_f (X := x2.toInt) (Y := 24) rfl (by decide) (by omega)) ?_
        refine xi_iconst (pc' := 11) (v := 0) kc_66_10 rfl rfl ?_
        refine xi_istore_n (pc' := 12) (lv' := [(3, .int 0), (0, .ref 115), (1, .int x1), (2, .int x2)]) kc_66_11 rfl rfl (xm_lt ml_66 rfl) ?_
        have zc0 : (0 : Int32).toInt = 0 := by decide
        refine xw_lv (b := [(0, .ref 115), (1, .int x1), (2, .int x2), (3, .int 0)]) (lvS_cons (lvS_cons (lvS_cons (lvS_cons (lvS_nil (show ([3, 0, 1, 2] : List Nat).Nodup by decide)) rfl) rfl) rfl) rfl) ?_
        exact i1 x1 x2 0 h (by omega) (by omega) K (by omega)
    · intro x1 x2 x3 h b2 b3 K hm
      have rx1 := xc_rng x1
      refine xi_iload_n (pc' := 13) (x := x3) kc_66_12 rfl rfl ?_
      refine xi_iload_n (pc' := 14) (x := x2) kc_66_13 rfl rfl ?_
      by_cases c1 : x2.toInt ≤ x3.toInt
      · refine xi_cmt (pc' := 60) kc_66_14 rfl (xc_ge_t (X := x3.toInt) (Y := x2.toInt) rfl rfl (by omega)) ?_
        refine xcps2 (α := Int32) (x2 + 1) (fun v2 ev2 => ?_)
        have zv2 : v2.toInt = (x2.toInt + 1) := by rw [← ev2]; exact (xz_add (X := x2.toInt) (Y := 1) rfl (by decide) (by omega) (by omega)).trans (by omega)
        refine xi_iinc (pc' := 63) (x := x2) (v := v2) (lv' := [(2, .int v2), (0, .ref 115), (1, .int x1), (3, .int x3)]) kc_66_60 rfl rfl ev2 rfl (xm_lt ml_66 rfl) ?_
        refine xi_goto (pc' := 4) kc_66_63 rfl ?_
        refine xw_lv (b := [(0, .ref 115), (1, .int x1), (2, .int v2)]) (lvS_cons (lvS_cons (lvS_cons (lvS_nil (show ([2, 0, 1, 3] : List Nat).Nodup by decide)) rfl) rfl) rfl) ?_
        exact i0 x1 v2 h (by omega) K (by omega)
      · refine xi_cmf (pc' := 17) kc_66_14 rfl (xc_ge_f (X := x3.toInt) (Y := x2.toInt) rfl rfl (by omega)) ?_
        refine xi_iload_n (pc' := 18) (x := x1) kc_66_17 rfl rfl ?_
        refine xi_aload_n (pc' := 19) (x := 115) kc_66_18 rfl rfl ?_
        refine xp_115 K.1 (fun u3 u4 u5 u6 u7 u8 u9 u10 u11 u12 u13 u14 u15 bu3 bu4 bu5 bu6 bu7 bu8 bu9 bu10 bu11 bu12 bu13 bu14 bu15 A16 => ?_)
        refine xi_getfield (pc' := 22) (v := .ref 158) kc_66_19 rfl rfl rfl A16 rfl ?_
        refine xi_iload_n (pc' := 23) (x := x2) kc_66_22 rfl rfl ?_
        refine xcps4 (xk_arr K.1 xD_158) (fun y17 A17 hy17 ry17 => ?_)
        refine xcps4 (xj_get hy17 ry17 (i := x2) (by omega) (by omega)) (fun v18 ev18 bv18 dv18 => ?_)
        refine xi_iaload (pc' := 24) (v := v18) kc_66_23 rfl A17 (by decide) rfl (xi_in (by omega) (by rw [hy17]; omega)) ev18 ?_
        refine xi_iconst (pc' := 25) (v := 1) kc_66_24 rfl rfl ?_
        by_cases c19 : v18.toInt = 1
        · refine xi_cmf (pc' := 28) kc_66_25 rfl (xc_ne_f (X := v18.toInt) (Y := 1) rfl (by decide) (by omega)) ?_
          refine xi_aload_n (pc' := 29) (x := 115) kc_66_28 rfl rfl ?_
          refine xi_getfield (pc' := 32) (v := .ref 158) kc_66_29 rfl rfl rfl A16 rfl ?_
          refine xi_iload_n (pc' := 33) (x := x3) kc_66_32 rfl rfl ?_
          refine xcps4 (xj_get hy17 ry17 (i := x3) (by omega) (by omega)) (fun v20 ev20 bv20 dv20 => ?_)
          refine xi_iaload (pc' := 34) (v := v20) kc_66_33 rfl A17 (by decide) rfl (xi_in (by omega) (by rw [hy17]; omega)) ev20 ?_
          refine xi_iconst (pc' := 35) (v := 1) kc_66_34 rfl rfl ?_
          by_cases c21 : v20.toInt = 1
          · refine xi_cmf (pc' := 38) kc_66_35 rfl (xc_ne_f (X := v20.toInt) (Y := 1) rfl (by decide) (by omega)) ?_
            refine xi_aload_n (pc' := 39) (x := 115) kc_66_38 rfl rfl ?_
            refine xi_iload_n (pc' := 40) (x := x2) kc_66_39 rfl rfl ?_
            refine xi_iload_n (pc' := 41) (x := x3) kc_66_40 rfl rfl ?_
            refine xi_virtual (mj := 67) (as := [.int x2, .int x3]) (st1 := [.int x1]) (lv0 := [(0, .ref 115), (1, .int x2), (2, .int x3)]) kc_66_41 rfl rfl rfl rfl rfl A16 (Nat.le_of_ble_eq_true rfl) (hJ _ _ _ _ (by decide)) (xm_le ml_67 rfl) rfl ?_
            refine xi_aload_n (pc' := 1) (x := 115) kc_67_0 rfl rfl ?_
            refine xi_getfield (pc' := 4) (v := .ref 156) kc_67_1 rfl rfl rfl A16 rfl ?_
            refine xi_iload_n (pc' := 5) (x := x2) kc_67_4 rfl rfl ?_
            refine xcps4 (xk_arr K.1 xD_156) (fun y22 A22 hy22 ry22 => ?_)
            refine xcps4 (xj_get hy22 ry22 (i := x2) (by omega) (by omega)) (fun v23 ev23 bv23 dv23 => ?_)
            refine xi_iaload (pc' := 6) (v := v23) kc_67_5 rfl A22 (by decide) rfl (xi_in (by omega) (by rw [hy22]; omega)) ev23 ?_
            refine xi_aload_n (pc' := 7) (x := 115) kc_67_6 rfl rfl ?_
            refine xi_getfield (pc' := 10) (v := .ref 156) kc_67_7 rfl rfl rfl A16 rfl ?_
            refine xi_iload_n (pc' := 11) (x := x3) kc_67_10 rfl rfl ?_
            refine xcps4 (xj_get hy22 ry22 (i := x3) (by omega) (by omega)) (fun v24 ev24 bv24 dv24 => ?_)
            refine xi_iaload (pc' := 12) (v := v24) kc_67_11 rfl A22 (by decide) rfl (xi_in (by omega) (by rw [hy22]; omega)) ev24 ?_
            refine xcps2 (α := Int32) (v23 - v24) (fun v25 ev25 => ?_)
            have zv25 : v25.toInt = (v23.toInt + (-1) * v24.toInt) := by rw [← ev25]; exact (xz_sub (X := v23.toInt) (Y := v24.toInt) rfl rfl (by omega) (by omega)).trans (by omega)
            refine xi_isub (pc' := 13) (v := v25) kc_67_12 rfl ev25 ?_
            refine xi_istore_n (pc' := 14) (lv' := [(3, .int v25), (0, .ref 115), (1, .int x2), (2, .int x3)]) kc_67_13 rfl rfl (xm_lt ml_67 rfl) ?_
            refine xi_aload_n (pc' := 15) (x := 115) kc_67_14 rfl rfl ?_
            refine xi_getfield (pc' := 18) (v := .ref 157) kc_67_15 rfl rfl rfl A16 rfl ?_
            refine xi_iload_n (pc' := 19) (x := x2) kc_67_18 rfl rfl ?_
            refine xcps4 (xk_arr K.1 xD_157) (fun y26 A26 hy26 ry26 => ?_)
            refine xcps4 (xj_get hy26 ry26 (i := x2) (by omega) (by omega)) (fun v27 ev27 bv27 dv27 => ?_)
            refine xi_iaload (pc' := 20) (v := v27) kc_67_19 rfl A26 (by decide) rfl (xi_in (by omega) (by rw [hy26]; omega)) ev27 ?_
            refine xi_aload_n (pc' := 21) (x := 115) kc_67_20 rfl rfl ?_
            refine xi_getfield (pc' := 24) (v := .ref 157) kc_67_21 rfl rfl rfl A16 rfl ?_
            refine xi_iload_n (pc' := 25) (x := x3) kc_67_24 rfl rfl ?_
            refine xcps4 (xj_get hy26 ry26 (i := x3) (by omega) (by omega)) (fun v28 ev28 bv28 dv28 => ?_)
            refine xi_iaload (pc' := 26) (v := v28) kc_67_25 rfl A26 (by decide) rfl (xi_in (by omega) (by rw [hy26]; omega)) ev28 ?_
            refine xcps2 (α := Int32) (v27 - v28) (fun v29 ev29 => ?_)
            have zv29 : v29.toInt = (v27.toInt + (-1) * v28.toInt) := by rw [← ev29]; exact (xz_sub (X := v27.toInt) (Y := v28.toInt) rfl rfl (by omega) (by omega)).trans (by omega)
            refine xi_isub (pc' := 27) (v := v29) kc_67_26 rfl ev29 ?_
            refine xi_istore (pc' := 29) (lv' := [(4, .int v29), (3, .int v25), (0, .ref 115), (1, .int x2), (2, .int x3)]) kc_67_27 rfl rfl (xm_lt ml_67 rfl) ?_
            refine xi_iload_n (pc' := 30) (x := v25) kc_67_29 rfl rfl ?_
            by_cases c30 : (v23.toInt + (-1) * v24.toInt) = 0
            · refine xi_iff (pc' := 33) kc_67_30 rfl (xc_ne_f (X := (v23.toInt + (-1) * v24.toInt)) (Y := 0) zv25 (by decide) (by omega)) ?_
              refine xi_iload (pc' := 35) (x := v29) kc_67_33 rfl rfl ?_
              refine xi_iconst (pc' := 36) (v := 1) kc_67_35 rfl rfl ?_
              by_cases c31 : (v27.toInt + (-1) * v28.toInt) = 1
              · refine xi_cmt (pc' := 60) kc_67_36 rfl (xc_eq_t (X := (v27.toInt + (-1) * v28.toInt)) (Y := 1) zv29 (by decide) (by omega)) ?_
                refine xi_iconst (pc' := 61) (v := 1) kc_67_60 rfl rfl ?_
                refine xi_goto (pc' := 65) kc_67_61 rfl ?_
                refine xi_ireturn kc_67_65 mr_67 rfl ?_
                show xw J ov (d + 1) 66 (44, [(0, .ref 115), (1, .int x1), (2, .int x2), (3, .int x3)], [.int 1, .int x1], h) _
                refine xi_iff (pc' := 47) kc_66_44 rfl rfl ?_
                refine xi_iconst (pc' := 48) (v := 1) kc_66_47 rfl rfl ?_
                refine xi_goto (pc' := 52) kc_66_48 rfl ?_
                refine xcps2 (α := Int32) ((x1 : Int32) + 1) (fun v32 ev32 => ?_)
                have rv32 := xc_rng v32
                refine xi_iadd (pc' := 53) (v := v32) kc_66_52 rfl ev32 ?_
                refine xi_istore_n (pc' := 54) (lv' := [(1, .int v32), (0, .ref 115), (2, .int x2), (3, .int x3)]) kc_66_53 rfl rfl (xm_lt ml_66 rfl) ?_
                refine xcps2 (α := Int32) (x3 + 1) (fun v33 ev33 => ?_)
                have zv33 : v33.toInt = (x3.toInt + 1) := by rw [← ev33]; exact (xz_add (X := x3.toInt) (Y := 1) rfl (by decide) (by omega) (by omega)).trans (by omega)
                refine xi_iinc (pc' := 57) (x := x3) (v := v33) (lv' := [(3, .int v33), (1, .int v32), (0, .ref 115), (2, .int x2)]) kc_66_54 rfl rfl ev33 rfl (xm_lt ml_66 rfl) ?_
                refine xi_goto (pc' := 12) kc_66_57 rfl ?_
                refine xw_lv (b := [(0, .ref 115), (1, .int v32), (2, .int x2), (3, .int v33)]) (lvS_cons (lvS_cons (lvS_cons (lvS_cons (lvS_nil (show ([3, 1, 0, 2] : List Nat).Nodup by decide)) rfl) rfl) rfl) rfl) ?_
                exact i1 v32 x2 v33 h (by omega) (by omega) K (by omega)
              · refine xi_cmf (pc' := 39) kc_67_36 rfl (xc_eq_f (X := (v27.toInt + (-1) * v28.toInt)) (Y := 1) zv29 (by decide) (by omega)) ?_
                refine xi_iload (pc' := 41) (x := v29) kc_67_39 rfl rfl ?_
                refine xi_iconst (pc' := 42) (v := (-1)) kc_67_41 rfl rfl ?_
                by_cases c34 : (v27.toInt + (-1) * v28.toInt) = (-1)
                · refine xi_cmt (pc' := 60) kc_67_42 rfl (xc_eq_t (X := (v27.toInt + (-1) * v28.toInt)) (Y := (-1)) zv29 (by decide) (by omega)) ?_
                  refine xi_iconst (pc' := 61) (v := 1) kc_67_60 rfl rfl ?_
                  refine xi_goto (pc' := 65) kc_67_61 rfl ?_
                  refine xi_ireturn kc_67_65 mr_67 rfl ?_
                  show xw J ov (d + 1) 66 (44, [(0, .ref 115), (1, .int x1), (2, .int x2), (3, .int x3)], [.int 1, .int x1], h) _
                  refine xi_iff (pc' := 47) kc_66_44 rfl rfl ?_
                  refine xi_iconst (pc' := 48) (v := 1) kc_66_47 rfl rfl ?_
                  refine xi_goto (pc' := 52) kc_66_48 rfl ?_
                  refine xcps2 (α := Int32) ((x1 : Int32) + 1) (fun v35 ev35 => ?_)
                  have rv35 := xc_rng v35
                  refine xi_iadd (pc' := 53) (v := v35) kc_66_52 rfl ev35 ?_
                  refine xi_istore_n (pc' := 54) (lv' := [(1, .int v35), (0, .ref 115), (2, .int x2), (3, .int x3)]) kc_66_53 rfl rfl (xm_lt ml_66 rfl) ?_
                  refine xcps2 (α := Int32) (x3 + 1) (fun v36 ev36 => ?_)
                  have zv36 : v36.toInt = (x3.toInt + 1) := by rw [← ev36]; exact (xz_add (X := x3.toInt) (Y := 1) rfl (by decide) (by omega) (by omega)).trans (by omega)
                  refine xi_iinc (pc' := 57) (x := x3) (v := v36) (lv' := [(3, .int v36), (1, .int v35), (0, .ref 115), (2, .int x2)]) kc_66_54 rfl rfl ev36 rfl (xm_lt ml_66 rfl) ?_
                  refine xi_goto (pc' := 12) kc_66_57 rfl ?_
                  refine xw_lv (b := [(0, .ref 115), (1, .int v35), (2, .int x2), (3, .int v36)]) (lvS_cons (lvS_cons (lvS_cons (lvS_cons (lvS_nil (show ([3, 1, 0, 2] : List Nat).Nodup by decide)) rfl) rfl) rfl) rfl) ?_
                  exact i1 v35 x2 v36 h (by omega) (by omega) K (by omega)
                · refine xi_cmf (pc' := 45) kc_67_42 rfl (xc_eq_f (X := (v27.toInt + (-1) * v28.toInt)) (Y := (-1)) zv29 (by decide) (by omega)) ?_
                  refine xi_iload (pc' := 47) (x := v29) kc_67_45 rfl rfl ?_
                  by_cases c37 : (v27.toInt + (-1) * v28.toInt) = 0
                  · refine xi_iff (pc' := 50) kc_67_47 rfl (xc_ne_f (X := (v27.toInt + (-1) * v28.toInt)) (Y := 0) zv29 (by decide) (by omega)) ?_
                    refine xi_iload_n (pc' := 51) (x := v25) kc_67_50 rfl rfl ?_
                    refine xi_iconst (pc' := 52) (v := 1) kc_67_51 rfl rfl ?_
                    refine xi_cmf (pc' := 55) kc_67_52 rfl (xc_eq_f (X := (v23.toInt + (-1) * v24.toInt)) (Y := 1) zv25 (by decide) (by omega)) ?_
                    refine xi_iload_n (pc' := 56) (x := v25) kc_67_55 rfl rfl ?_
                    refine xi_iconst (pc' := 57) (v := (-1)) kc_67_56 rfl rfl ?_
                    refine xi_cmt (pc' := 64) kc_67_57 rfl (xc_ne_t (X := (v23.toInt + (-1) * v24.toInt)) (Y := (-1)) zv25 (by decide) (by omega)) ?_
                    refine xi_iconst (pc' := 65) (v := 0) kc_67_64 rfl rfl ?_
                    refine xi_ireturn kc_67_65 mr_67 rfl ?_
                    show xw J ov (d + 1) 66 (44, [(0, .ref 115), (1, .int x1), (2, .int x2), (3, .int x3)], [.int 0, .int x1], h) _
                    refine xi_ift (pc' := 51) kc_66_44 rfl rfl ?_
                    refine xi_iconst (pc' := 52) (v := 0) kc_66_51 rfl rfl ?_
                    refine xcps2 (α := Int32) (x1 + 0) (fun v38 ev38 => ?_)
                    have zv38 : v38.toInt = x1.toInt := by rw [← ev38]; exact (xz_add (X := x1.toInt) (Y := 0) rfl (by decide) (by omega) (by omega)).trans (by omega)
                    refine xi_iadd (pc' := 53) (v := v38) kc_66_52 rfl ev38 ?_
                    refine xi_istore_n (pc' := 54) (lv' := [(1, .int v38), (0, .ref 115), (2, .int x2), (3, .int x3)]) kc_66_53 rfl rfl (xm_lt ml_66 rfl) ?_
                    refine xcps2 (α := Int32) (x3 + 1) (fun v39 ev39 => ?_)
                    have zv39 : v39.toInt = (x3.toInt + 1) := by rw [← ev39]; exact (xz_add (X := x3.toInt) (Y := 1) rfl (by decide) (by omega) (by omega)).trans (by omega)
                    refine xi_iinc (pc' := 57) (x := x3) (v := v39) (lv' := [(3, .int v39), (1, .int v38), (0, .ref 115), (2, .int x2)]) kc_66_54 rfl rfl ev39 rfl (xm_lt ml_66 rfl) ?_
                    refine xi_goto (pc' := 12) kc_66_57 rfl ?_
                    refine xw_lv (b := [(0, .ref 115), (1, .int v38), (2, .int x2), (3, .int v39)]) (lvS_cons (lvS_cons (lvS_cons (lvS_cons (lvS_nil (show ([3, 1, 0, 2] : List Nat).Nodup by decide)) rfl) rfl) rfl) rfl) ?_
                    exact i1 v38 x2 v39 h (by omega) (by omega) K (by omega)
                  · refine xi_ift (pc' := 64) kc_67_47 rfl (xc_ne_t (X := (v27.toInt + (-1) * v28.toInt)) (Y := 0) zv29 (by decide) (by omega)) ?_
                    refine xi_iconst (pc' := 65) (v := 0) kc_67_64 rfl rfl ?_
                    refine xi_ireturn kc_67_65 mr_67 rfl ?_
                    show xw J ov (d + 1) 66 (44, [(0, .ref 115), (1, .int x1), (2, .int x2), (3, .int x3)], [.int 0, .int x1], h) _
                    refine xi_ift (pc' := 51) kc_66_44 rfl rfl ?_
                    refine xi_iconst (pc' := 52) (v := 0) kc_66_51 rfl rfl ?_
                    refine xcps2 (α := Int32) (x1 + 0) (fun v40 ev40 => ?_)
                    have zv40 : v40.toInt = x1.toInt := by rw [← ev40]; exact (xz_add (X := x1.toInt) (Y := 0) rfl (by decide) (by omega) (by omega)).trans (by omega)
                    refine xi_iadd (pc' := 53) (v := v40) kc_66_52 rfl ev40 ?_
                    refine xi_istore_n (pc' := 54) (lv' := [(1, .int v40), (0, .ref 115), (2, .int x2), (3, .int x3)]) kc_66_53 rfl rfl (xm_lt ml_66 rfl) ?_
                    refine xcps2 (α := Int32) (x3 + 1) (fun v41 ev41 => ?_)
                    have zv41 : v41.toInt = (x3.toInt + 1) := by rw [← ev41]; exact (xz_add (X := x3.toInt) (Y := 1) rfl (by decide) (by omega) (by omega)).trans (by omega)
                    refine xi_iinc (pc' := 57) (x := x3) (v := v41) (lv' := [(3, .int v41), (1, .int v40), (0, .ref 115), (2, .int x2)]) kc_66_54 rfl rfl ev41 rfl (xm_lt ml_66 rfl) ?_
                    refine xi_goto (pc' := 12) kc_66_57 rfl ?_
                    refine xw_lv (b := [(0, .ref 115), (1, .int v40), (2, .int x2), (3, .int v41)]) (lvS_cons (lvS_cons (lvS_cons (lvS_cons (lvS_nil (show ([3, 1, 0, 2] : List Nat).Nodup by decide)) rfl) rfl) rfl) rfl) ?_
                    exact i1 v40 x2 v41 h (by omega) (by omega) K (by omega)
            · refine xi_ift (pc' := 45) kc_67_30 rfl (xc_ne_t (X := (v23.toInt + (-1) * v24.toInt)) (Y := 0) zv25 (by decide) (by omega)) ?_
              refine xi_iload (pc' := 47) (x := v29) kc_67_45 rfl rfl ?_
              by_cases c42 : (v27.toInt + (-1) * v28.toInt) = 0
              · refine xi_iff (pc' := 50) kc_67_47 rfl (xc_ne_f (X := (v27.toInt + (-1) * v28.toInt)) (Y := 0) zv29 (by decide) (by omega)) ?_
                refine xi_iload_n (pc' := 51) (x := v25) kc_67_50 rfl rfl ?_
                refine xi_iconst (pc' := 52) (v := 1) kc_67_51 rfl rfl ?_
                by_cases c43 : (v23.toInt + (-1) * v24.toInt) = 1
                · refine xi_cmt (pc' := 60) kc_67_52 rfl (xc_eq_t (X := (v23.toInt + (-1) * v24.toInt)) (Y := 1) zv25 (by decide) (by omega)) ?_
                  refine xi_iconst (pc' := 61) (v := 1) kc_67_60 rfl rfl ?_
                  refine xi_goto (pc' := 65) kc_67_61 rfl ?_
                  refine xi_ireturn kc_67_65 mr_67 rfl ?_
                  show xw J ov (d + 1) 66 (44, [(0, .ref 115), (1, .int x1), (2, .int x2), (3, .int x3)], [.int 1, .int x1], h) _
                  refine xi_iff (pc' := 47) kc_66_44 rfl rfl ?_
                  refine xi_iconst (pc' := 48) (v := 1) kc_66_47 rfl rfl ?_
                  refine xi_goto (pc' := 52) kc_66_48 rfl ?_
                  refine xcps2 (α := Int32) ((x1 : Int32) + 1) (fun v44 ev44 => ?_)
                  have rv44 := xc_rng v44
                  refine xi_iadd (pc' := 53) (v := v44) kc_66_52 rfl ev44 ?_
                  refine xi_istore_n (pc' := 54) (lv' := [(1, .int v44), (0, .ref 115), (2, .int x2), (3, .int x3)]) kc_66_53 rfl rfl (xm_lt ml_66 rfl) ?_
                  refine xcps2 (α := Int32) (x3 + 1) (fun v45 ev45 => ?_)
                  have zv45 : v45.toInt = (x3.toInt + 1) := by rw [← ev45]; exact (xz_add (X := x3.toInt) (Y := 1) rfl (by decide) (by omega) (by omega)).trans (by omega)
                  refine xi_iinc (pc' := 57) (x := x3) (v := v45) (lv' := [(3, .int v45), (1, .int v44), (0, .ref 115), (2, .int x2)]) kc_66_54 rfl rfl ev45 rfl (xm_lt ml_66 rfl) ?_
                  refine xi_goto (pc' := 12) kc_66_57 rfl ?_
                  refine xw_lv (b := [(0, .ref 115), (1, .int v44), (2, .int x2), (3, .int v45)]) (lvS_cons (lvS_cons (lvS_cons (lvS_cons (lvS_nil (show ([3, 1, 0, 2] : List Nat).Nodup by decide)) rfl) rfl) rfl) rfl) ?_
                  exact i1 v44 x2 v45 h (by omega) (by omega) K (by omega)
                · refine xi_cmf (pc' := 55) kc_67_52 rfl (xc_eq_f (X := (v23.toInt + (-1) * v24.toInt)) (Y := 1) zv25 (by decide) (by omega)) ?_
                  refine xi_iload_n (pc' := 56) (x := v25) kc_67_55 rfl rfl ?_
                  refine xi_iconst (pc' := 57) (v := (-1)) kc_67_56 rfl rfl ?_
                  by_cases c46 : (v23.toInt + (-1) * v24.toInt) = (-1)
                  · refine xi_cmf (pc' := 60) kc_67_57 rfl (xc_ne_f (X := (v23.toInt + (-1) * v24.toInt)) (Y := (-1)) zv25 (by decide) (by omega)) ?_
                    refine xi_iconst (pc' := 61) (v := 1) kc_67_60 rfl rfl ?_
                    refine xi_goto (pc' := 65) kc_67_61 rfl ?_
                    refine xi_ireturn kc_67_65 mr_67 rfl ?_
                    show xw J ov (d + 1) 66 (44, [(0, .ref 115), (1, .int x1), (2, .int x2), (3, .int x3)], [.int 1, .int x1], h) _
                    refine xi_iff (pc' := 47) kc_66_44 rfl rfl ?_
                    refine xi_iconst (pc' := 48) (v := 1) kc_66_47 rfl rfl ?_
                    refine xi_goto (pc' := 52) kc_66_48 rfl ?_
                    refine xcps2 (α := Int32) ((x1 : Int32) + 1) (fun v47 ev47 => ?_)
                    have rv47 := xc_rng v47
                    refine xi_iadd (pc' := 53) (v := v47) kc_66_52 rfl ev47 ?_
                    refine xi_istore_n (pc' := 54) (lv' := [(1, .int v47), (0, .ref 115), (2, .int x2), (3, .int x3)]) kc_66_53 rfl rfl (xm_lt ml_66 rfl) ?_
                    refine xcps2 (α := Int32) (x3 + 1) (fun v48 ev48 => ?_)
                    have zv48 : v48.toInt = (x3.toInt + 1) := by rw [← ev48]; exact (xz_add (X := x3.toInt) (Y := 1) rfl (by decide) (by omega) (by omega)).trans (by omega)
                    refine xi_iinc (pc' := 57) (x := x3) (v := v48) (lv' := [(3, .int v48), (1, .int v47), (0, .ref 115), (2, .int x2)]) kc_66_54 rfl rfl ev48 rfl (xm_lt ml_66 rfl) ?_
                    refine xi_goto (pc' := 12) kc_66_57 rfl ?_
                    refine xw_lv (b := [(0, .ref 115), (1, .int v47), (2, .int x2), (3, .int v48)]) (lvS_cons (lvS_cons (lvS_cons (lvS_cons (lvS_nil (show ([3, 1, 0, 2] : List Nat).Nodup by decide)) rfl) rfl) rfl) rfl) ?_
                    exact i1 v47 x2 v48 h (by omega) (by omega) K (by omega)
                  · refine xi_cmt (pc' := 64) kc_67_57 rfl (xc_ne_t (X := (v23.toInt + (-1) * v24.toInt)) (Y := (-1)) zv25 (by decide) (by omega)) ?_
                    refine xi_iconst (pc' := 65) (v := 0) kc_67_64 rfl rfl ?_
                    refine xi_ireturn kc_67_65 mr_67 rfl ?_
                    show xw J ov (d + 1) 66 (44, [(0, .ref 115), (1, .int x1), (2, .int x2), (3, .int x3)], [.int 0, .int x1], h) _
                    refine xi_ift (pc' := 51) kc_66_44 rfl rfl ?_
                    refine xi_iconst (pc' := 52) (v := 0) kc_66_51 rfl rfl ?_
                    refine xcps2 (α := Int32) (x1 + 0) (fun v49 ev49 => ?_)
                    have zv49 : v49.toInt = x1.toInt := by rw [← ev49]; exact (xz_add (X := x1.toInt) (Y := 0) rfl (by decide) (by omega) (by omega)).trans (by omega)
                    refine xi_iadd (pc' := 53) (v := v49) kc_66_52 rfl ev49 ?_
                    refine xi_istore_n (pc' := 54) (lv' := [(1, .int v49), (0, .ref 115), (2, .int x2), (3, .int x3)]) kc_66_53 rfl rfl (xm_lt ml_66 rfl) ?_
                    refine xcps2 (α := Int32) (x3 + 1) (fun v50 ev50 => ?_)
                    have zv50 : v50.toInt = (x3.toInt + 1) := by rw [← ev50]; exact (xz_add (X := x3.toInt) (Y := 1) rfl (by decide) (by omega) (by omega)).trans (by omega)
                    refine xi_iinc (pc' := 57) (x := x3) (v := v50) (lv' := [(3, .int v50), (1, .int v49), (0, .ref 115), (2, .int x2)]) kc_66_54 rfl rfl ev50 rfl (xm_lt ml_66 rfl) ?_
                    refine xi_goto (pc' := 12) kc_66_57 rfl ?_
                    refine xw_lv (b := [(0, .ref 115), (1, .int v49), (2, .int x2), (3, .int v50)]) (lvS_cons (lvS_cons (lvS_cons (lvS_cons (lvS_nil (show ([3, 1, 0, 2] : List Nat).Nodup by decide)) rfl) rfl) rfl) rfl) ?_
                    exact i1 v49 x2 v50 h (by omega) (by omega) K (by omega)
              · refine xi_ift (pc' := 64) kc_67_47 rfl (xc_ne_t (X := (v27.toInt + (-1) * v28.toInt)) (Y := 0) zv29 (by decide) (by omega)) ?_
                refine xi_iconst (pc' := 65) (v := 0) kc_67_64 rfl rfl ?_
                refine xi_ireturn kc_67_65 mr_67 rfl ?_
                show xw J ov (d + 1) 66 (44, [(0, .ref 115), (1, .int x1), (2, .int x2), (3, .int x3)], [.int 0, .int x1], h) _
                refine xi_ift (pc' := 51) kc_66_44 rfl rfl ?_
                refine xi_iconst (pc' := 52) (v := 0) kc_66_51 rfl rfl ?_
                refine xcps2 (α := Int32) (x1 + 0) (fun v51 ev51 => ?_)
                have zv51 : v51.toInt = x1.toInt := by rw [← ev51]; exact (xz_add (X := x1.toInt) (Y := 0) rfl (by decide) (by omega) (by omega)).trans (by omega)
                refine xi_iadd (pc' := 53) (v := v51) kc_66_52 rfl ev51 ?_
                refine xi_istore_n (pc' := 54) (lv' := [(1, .int v51), (0, .ref 115), (2, .int x2), (3, .int x3)]) kc_66_53 rfl rfl (xm_lt ml_66 rfl) ?_
                refine xcps2 (α := Int32) (x3 + 1) (fun v52 ev52 => ?_)
                have zv52 : v52.toInt = (x3.toInt + 1) := by rw [← ev52]; exact (xz_add (X := x3.toInt) (Y := 1) rfl (by decide) (by omega) (by omega)).trans (by omega)
                refine xi_iinc (pc' := 57) (x := x3) (v := v52) (lv' := [(3, .int v52), (1, .int v51), (0, .ref 115), (2, .int x2)]) kc_66_54 rfl rfl ev52 rfl (xm_lt ml_66 rfl) ?_
                refine xi_goto (pc' := 12) kc_66_57 rfl ?_
                refine xw_lv (b := [(0, .ref 115), (1, .int v51), (2, .int x2), (3, .int v52)]) (lvS_cons (lvS_cons (lvS_cons (lvS_cons (lvS_nil (show ([3, 1, 0, 2] : List Nat).Nodup by decide)) rfl) rfl) rfl) rfl) ?_
                exact i1 v51 x2 v52 h (by omega) (by omega) K (by omega)
          · refine xi_cmt (pc' := 51) kc_66_35 rfl (xc_ne_t (X := v20.toInt) (Y := 1) rfl (by decide) (by omega)) ?_
            refine xi_iconst (pc' := 52) (v := 0) kc_66_51 rfl rfl ?_
            refine xcps2 (α := Int32) (x1 + 0) (fun v53 ev53 => ?_)
            have zv53 : v53.toInt = x1.toInt := by rw [← ev53]; exact (xz_add (X := x1.toInt) (Y := 0) rfl (by decide) (by omega) (by omega)).trans (by omega)
            refine xi_iadd (pc' := 53) (v := v53) kc_66_52 rfl ev53 ?_
            refine xi_istore_n (pc' := 54) (lv' := [(1, .int v53), (0, .ref 115), (2, .int x2), (3, .int x3)]) kc_66_53 rfl rfl (xm_lt ml_66 rfl) ?_
            refine xcps2 (α := Int32) (x3 + 1) (fun v54 ev54 => ?_)
            have zv54 : v54.toInt = (x3.toInt + 1) := by rw [← ev54]; exact (xz_add (X := x3.toInt) (Y := 1) rfl (by decide) (by omega) (by omega)).trans (by omega)
            refine xi_iinc (pc' := 57) (x := x3) (v := v54) (lv' := [(3, .int v54), (1, .int v53), (0, .ref 115), (2, .int x2)]) kc_66_54 rfl rfl ev54 rfl (xm_lt ml_66 rfl) ?_
            refine xi_goto (pc' := 12) kc_66_57 rfl ?_
            refine xw_lv (b := [(0, .ref 115), (1, .int v53), (2, .int x2), (3, .int v54)]) (lvS_cons (lvS_cons (lvS_cons (lvS_cons (lvS_nil (show ([3, 1, 0, 2] : List Nat).Nodup by decide)) rfl) rfl) rfl) rfl) ?_
            exact i1 v53 x2 v54 h (by omega) (by omega) K (by omega)
        · refine xi_cmt (pc' := 51) kc_66_25 rfl (xc_ne_t (X := v18.toInt) (Y := 1) rfl (by decide) (by omega)) ?_
          refine xi_iconst (pc' := 52) (v := 0) kc_66_51 rfl rfl ?_
          refine xcps2 (α := Int32) (x1 + 0) (fun v55 ev55 => ?_)
          have zv55 : v55.toInt = x1.toInt := by rw [← ev55]; exact (xz_add (X := x1.toInt) (Y := 0) rfl (by decide) (by omega) (by omega)).trans (by omega)
          refine xi_iadd (pc' := 53) (v := v55) kc_66_52 rfl ev55 ?_
          refine xi_istore_n (pc' := 54) (lv' := [(1, .int v55), (0, .ref 115), (2, .int x2), (3, .int x3)]) kc_66_53 rfl rfl (xm_lt ml_66 rfl) ?_
          refine xcps2 (α := Int32) (x3 + 1) (fun v56 ev56 => ?_)
          have zv56 : v56.toInt = (x3.toInt + 1) := by rw [← ev56]; exact (xz_add (X := x3.toInt) (Y := 1) rfl (by decide) (by omega) (by omega)).trans (by omega)
          refine xi_iinc (pc' := 57) (x := x3) (v := v56) (lv' := [(3, .int v56), (1, .int v55), (0, .ref 115), (2, .int x2)]) kc_66_54 rfl rfl ev56 rfl (xm_lt ml_66 rfl) ?_
          refine xi_goto (pc' := 12) kc_66_57 rfl ?_
          refine xw_lv (b := [(0, .ref 115), (1, .int v55), (2, .int x2), (3, .int v56)]) (lvS_cons (lvS_cons (lvS_cons (lvS_cons (lvS_nil (show ([3, 1, 0, 2] : List Nat).Nodup by decide)) rfl) rfl) rfl) rfl) ?_
          exact i1 v55 x2 v56 h (by omega) (by omega) K (by omega)
set_option maxHeartbeats 4000000 in
theorem mt_66_0 {J : xe_J} {ov : List (List Int32)} (hJ : ∀ d mj as h, mj ≠ xe_loff → J d mj as h = none) (hov1 : ov[1]? = some [10, 0, 0, 0, 0, 0]) (hov2 : ov[2]? = some [99, 30, 50, 50, 1, 99999]) {d : Nat} {Q : Option Value → xe_H → Prop} {h : xe_H} (T : xt h) (kk : (∀ (r : Int32) (h' : xe_H), xk [(0, 9), (115, 1), (83, 0), (29, 0), (31, 0), (33, 0), (35, 0), (37, 0), (39, 0), (41, 0), (43, 0), (45, 0), (47, 0), (49, 0), (51, 0), (125, 0), (66, 8), (115, 18), (71, 0), (132, 0)] h h' → Q (some (.int r)) h')) : xw J ov (d + 1) 66 (0, [(0, .ref 115)], [], h) Q := by
  have K : xk [(0, 9), (115, 1), (83, 0), (29, 0), (31, 0), (33, 0), (35, 0), (37, 0), (39, 0), (41, 0), (43, 0), (45, 0), (47, 0), (49, 0), (51, 0), (125, 0), (66, 8), (115, 18), (71, 0), (132, 0)] h h := xk_re T
  refine xi_iconst (pc' := 1) (v := 0) kc_66_0 rfl rfl ?_
  refine xi_istore_n (pc' := 2) (lv' := [(1, .int 0), (0, .ref 115)]) kc_66_1 rfl rfl (xm_lt ml_66 rfl) ?_
  refine xi_iconst (pc' := 3) (v := 0) kc_66_2 rfl rfl ?_
  refine xi_istore_n (pc' := 4) (lv' := [(2, .int 0), (1, .int 0), (0, .ref 115)]) kc_66_3 rfl rfl (xm_lt ml_66 rfl) ?_
  have zc0 : (0 : Int32).toInt = 0 := by decide
  refine xw_lv (b := [(0, .ref 115), (1, .int 0), (2, .int 0)]) (lvS_cons (lvS_cons (lvS_cons (lvS_nil (show ([2, 1, 0] : List Nat).Nodup by decide)) rfl) rfl) rfl) ?_
  exact (lp_66_0 hJ hov1 hov2 (d := d) (hb := h) (fun r9 h9 K9 => kk r9 h9 (xk_tr K K9 rfl)) 625).1 0 0 h (by omega) (xk_re K.1) (by omega)
set_option maxHeartbeats 4000000 in
theorem mt_65_0 {J : xe_J} {ov : List (List Int32)} (hJ : ∀ d mj as h, mj ≠ xe_loff → J d mj as h = none) (hov1 : ov[1]? = some [10, 0, 0, 0, 0, 0]) (hov2 : ov[2]? = some [99, 30, 50, 50, 1, 99999]) {d : Nat} {Q : Option Value → xe_H → Prop} {h : xe_H} (T : xt h) (kk : (∀ (r : Int32) (h' : xe_H), xk [(0, 9), (115, 1), (83, 0), (29, 0), (31, 0), (33, 0), (35, 0), (37, 0), (39, 0), (41, 0), (43, 0), (45, 0), (47, 0), (49, 0), (51, 0), (125, 0), (66, 8), (115, 18), (71, 0), (132, 0)] h h' → Q (some (.int r)) h')) : xw J ov (d + 2) 65 (0, [(0, .ref 115)], [], h) Q := by
  have K : xk [(0, 9), (115, 1), (83, 0), (29, 0), (31, 0), (33, 0), (35, 0), (37, 0), (39, 0), (41, 0), (43, 0), (45, 0), (47, 0), (49, 0), (51, 0), (125, 0), (66, 8), (115, 18), (71, 0), (132, 0)] h h := xk_re T
  refine xi_aload_n (pc' := 1) (x := 115) kc_65_0 rfl rfl ?_
  refine xi_iconst (pc' := 2) (v := 0) kc_65_1 rfl rfl ?_
  refine xp_115 K.1 (fun u1 u2 u3 u4 u5 u6 u7 u8 u9 u10 u11 u12 u13 bu1 bu2 bu3 bu4 bu5 bu6 bu7 bu8 bu9 bu10 bu11 bu12 bu13 A14 => ?_)
  refine xi_putfield (pc' := 5) (fs' := [.int 0, .int u2, .ref 116, .ref 117, .ref 118, .ref 119, .ref 120, .ref 121, .ref 122, .ref 123, .ref 124, .ref 125, .ref 126, .ref 127, .ref 128, .ref 129, .int u3, .ref 130, .int u4, .ref 131, .ref 132, .ref 133, .ref 134, .int u5, .ref 135, .ref 136, .ref 137, .ref 138, .ref 139, .ref 140, .ref 141, .ref 142, .int u6, .int u7, .int u8, .ref 143, .ref 144, .ref 145, .ref 146, .ref 147, .ref 148, .int u9, .ref 149, .ref 150, .ref 151, .int u10, .ref 152, .ref 153, .ref 154, .ref 155, .ref 156, .ref 157, .ref 158, .ref 159, .int u11, .ref 160, .int u12, .ref 161, .ref 162, .ref 163, .ref 164, .int u13, .ref 165, .ref 166]) kc_65_2 rfl rfl rfl A14 rfl rfl rfl (Nat.le_of_ble_eq_true rfl) rfl (fun hh16 eh15 => ?_)
  have K17 := xk_pf (k := 0) (v := 0) K (xk_wf rfl) xD_115 A14 rfl (by first | omega | decide) (by first | omega | decide) eh15 rfl
  refine xi_aload_n (pc' := 6) (x := 115) kc_65_5 rfl rfl ?_
  refine xi_virtual (mj := 66) (as := []) (st1 := []) (lv0 := [(0, .ref 115)]) kc_65_6 rfl rfl rfl rfl rfl eh15.1 (Nat.le_of_ble_eq_true rfl) (hJ _ _ _ _ (by decide)) (xm_le ml_66 rfl) rfl ?_
  refine mt_66_0 hJ hov1 hov2 (d := d)  K17.1 (fun r18 hh19 K20 => ?_)
  have br18 := xc_rng r18
  have K21 := xk_tr K17 K20 rfl
  refine xp_115 K21.1 (fun u22 u23 u24 u25 u26 u27 u28 u29 u30 u31 u32 u33 u34 bu22 bu23 bu24 bu25 bu26 bu27 bu28 bu29 bu30 bu31 bu32 bu33 bu34 A35 => ?_)
  have e36 : u2 = u23 := xk_eqi (q := 1) K20 rfl eh15.1 A35 rfl rfl
  subst e36
  have e37 : u4 = u25 := xk_eqi (q := 18) K20 rfl eh15.1 A35 rfl rfl
  subst e37
  show xw J ov (d + 2) 65 (9, [(0, .ref 115)], [.int r18], hh19) _
  refine xi_ireturn kc_65_9 mr_65 rfl ?_
  exact kk r18 hh19 K21
set_option maxHeartbeats 4000000 in
theorem lp_69_0 {J : xe_J} {ov : List (List Int32)} (hJ : ∀ d mj as h, mj ≠ xe_loff → J d mj as h = none) (hov1 : ov[1]? = some [10, 0, 0, 0, 0, 0]) (hov2 : ov[2]? = some [99, 30, 50, 50, 1, 99999]) {d : Nat} {Q : Option Value → xe_H → Prop} {hb : xe_H} (kk : (∀ h' : xe_H, xk [(0, 9), (115, 1), (83, 0), (29, 0), (31, 0), (33, 0), (35, 0), (37, 0), (39, 0), (41, 0), (43, 0), (45, 0), (47, 0), (49, 0), (51, 0), (125, 0), (66, 8), (115, 18), (71, 0), (132, 0)] hb h' → Q none h')) : ∀ m : Nat, (∀ (x1 : Int32) (h : xe_H), (0 ≤ x1.toInt ∧ x1.toInt ≤ 24) → (∀ v : Int32, xl h (115, 54) = some (.inl (.int v)) → v.toInt + (-1) * x1.toInt + 0 ≤ 0) → xk [(0, 9), (115, 1), (83, 0), (29, 0), (31, 0), (33, 0), (35, 0), (37, 0), (39, 0), (41, 0), (43, 0), (45, 0), (47, 0), (49, 0), (51, 0), (125, 0), (66, 8), (115, 18), (71, 0), (132, 0)] hb h → (-1) * x1.toInt + 24 < (m : Int) → xw J ov (d + 1) 69 (7, [(0, .ref 115), (1, .int x1)], [], h) Q) := by
  intro m
  induction m with
  | zero =>
    intro x1 h b1 gh0 K hm; exfalso; omega
  | succ m ih =>
    have i0 := ih
    intro x1 h b1 gh0 K hm
    refine xp_115 K.1 (fun u1 u2 u3 u4 u5 u6 u7 u8 u9 u10 u11 u12 u13 bu1 bu2 bu3 bu4 bu5 bu6 bu7 bu8 bu9 bu10 bu11 bu12 bu13 A14 => ?_)
    have gh0' := gh0 _ (xl_of A14 rfl)
    refine xi_iload_n (pc' := 8) (x := x1) kc_69_7 rfl rfl ?_
    refine xi_bipush (pc' := 10) (v := 24) kc_69_8 rfl rfl ?_
    by_cases c15 : 24 ≤ x1.toInt
    · refine xi_cmt (pc' := 49) kc_69_10 rfl (xc_ge_t (X := x1.toInt) (Y := 24) rfl (by decide) (by omega)) ?_
      refine xi_return kc_69_49 mr_69 ?_
      exact kk h K
    · refine xi_cmf (pc' := 13) kc_69_10 rfl (xc_ge_f (X := x1.toInt) (Y := 24) rfl (by decide) (by omega)) ?_
      refine xi_aload_n (pc' := 14) (x := 115) kc_69_13 rfl rfl ?_
      refine xi_getfield (pc' := 17) (v := .ref 158) kc_69_14 rfl rfl rfl A14 rfl ?_
      refine xi_iload_n (pc' := 18) (x := x1) kc_69_17 rfl rfl ?_
      refine xcps4 (xk_arr K.1 xD_158) (fun y16 A16 hy16 ry16 => ?_)
      refine xcps4 (xj_get hy16 ry16 (i := x1) (by omega) (by omega)) (fun v17 ev17 bv17 dv17 => ?_)
      refine xi_iaload (pc' := 19) (v := v17) kc_69_18 rfl A16 (by decide) rfl (xi_in (by omega) (by rw [hy16]; omega)) ev17 ?_
      refine xi_iconst (pc' := 20) (v := 2) kc_69_19 rfl rfl ?_
      by_cases c18 : 2 ≤ v17.toInt
      · refine xi_cmt (pc' := 43) kc_69_20 rfl (xc_ge_t (X := v17.toInt) (Y := 2) rfl (by decide) (by omega)) ?_
        refine xcps2 (α := Int32) (x1 + 1) (fun v19 ev19 => ?_)
        have zv19 : v19.toInt = (x1.toInt + 1) := by rw [← ev19]; exact (xz_add (X := x1.toInt) (Y := 1) rfl (by decide) (by omega) (by omega)).trans (by omega)
        refine xi_iinc (pc' := 46) (x := x1) (v := v19) (lv' := [(1, .int v19), (0, .ref 115)]) kc_69_43 rfl rfl ev19 rfl (xm_lt ml_69 rfl) ?_
        refine xi_goto (pc' := 7) kc_69_46 rfl ?_
        refine xw_lv (b := [(0, .ref 115), (1, .int v19)]) (lvS_cons (lvS_cons (lvS_nil (show ([1, 0] : List Nat).Nodup by decide)) rfl) rfl) ?_
        exact i0 v19 h (by omega) (fun v e => by have e2 := xl_val (u := u11) A14 rfl e; subst e2; omega) K (by omega)
      · refine xi_cmf (pc' := 23) kc_69_20 rfl (xc_ge_f (X := v17.toInt) (Y := 2) rfl (by decide) (by omega)) ?_
        refine xi_aload_n (pc' := 24) (x := 115) kc_69_23 rfl rfl ?_
        refine xi_getfield (pc' := 27) (v := .ref 159) kc_69_24 rfl rfl rfl A14 rfl ?_
        refine xi_aload_n (pc' := 28) (x := 115) kc_69_27 rfl rfl ?_
        refine xi_getfield (pc' := 31) (v := .int u11) kc_69_28 rfl rfl rfl A14 rfl ?_
        refine xi_iload_n (pc' := 32) (x := x1) kc_69_31 rfl rfl ?_
        have t20 : 0 ≤ u11.toInt ∧ u11.toInt ≤ 23 := by omega
        refine xcps4 (xk_arr K.1 xD_159) (fun y21 A21 hy21 ry21 => ?_)
        refine xcps4 (xj_set (v := x1) hy21 ry21 u11 (by first | omega | decide) (by first | omega | decide)) (fun y22 s22 hy22 ry22 => ?_)
        refine xi_iastore (pc' := 33) (x' := y22) kc_69_32 rfl A21 rfl (xi_in (by omega) (by rw [hy21]; omega)) s22 (fun hh22 eh22 => ?_)
        have K23 := xk_pa K (xk_wa rfl) xD_159 hy22 ry22 eh22
        refine xi_aload_n (pc' := 34) (x := 115) kc_69_33 rfl rfl ?_
        refine xi_dup (pc' := 35) kc_69_34 rfl rfl ?_
        have A24 := ((eh22.2.1 115 (by decide)).trans A14)
        refine xi_getfield (pc' := 38) (v := .int u11) kc_69_35 rfl rfl rfl A24 rfl ?_
        refine xi_iconst (pc' := 39) (v := 1) kc_69_38 rfl rfl ?_
        refine xcps2 (α := Int32) (u11 + 1) (fun v25 ev25 => ?_)
        have zv25 : v25.toInt = (u11.toInt + 1) := by rw [← ev25]; exact (xz_add (X := u11.toInt) (Y := 1) rfl (by decide) (by omega) (by omega)).trans (by omega)
        refine xi_iadd (pc' := 40) (v := v25) kc_69_39 rfl ev25 ?_
        refine xi_putfield (pc' := 43) (fs' := [.int u1, .int u2, .ref 116, .ref 117, .ref 118, .ref 119, .ref 120, .ref 121, .ref 122, .ref 123, .ref 124, .ref 125, .ref 126, .ref 127, .ref 128, .ref 129, .int u3, .ref 130, .int u4, .ref 131, .ref 132, .ref 133, .ref 134, .int u5, .ref 135, .ref 136, .ref 137, .ref 138, .ref 139, .ref 140, .ref 141, .ref 142, .int u6, .int u7, .int u8, .ref 143, .ref 144, .ref 145, .ref 146, .ref 147, .ref 148, .int u9, .ref 149, .ref 150, .ref 151, .int u10, .ref 152, .ref 153, .ref 154, .ref 155, .ref 156, .ref 157, .ref 158, .ref 159, .int v25, .ref 160, .int u12, .ref 161, .ref 162, .ref 163, .ref 164, .int u13, .ref 165, .ref 166]) kc_69_40 rfl rfl rfl A24 rfl rfl rfl (Nat.le_of_ble_eq_true rfl) rfl (fun hh27 eh26 => ?_)
        have K28 := xk_pf (k := 54) (v := v25) K23 (xk_wf rfl) xD_115 A24 rfl (by first | omega | decide) (by first | omega | decide) eh26 rfl
        refine xcps2 (α := Int32) (x1 + 1) (fun v29 ev29 => ?_)
        have zv29 : v29.toInt = (x1.toInt + 1) := by rw [← ev29]; exact (xz_add (X := x1.toInt) (Y := 1) rfl (by decide) (by omega) (by omega)).trans (by omega)
        refine xi_iinc (pc' := 46) (x := x1) (v := v29) (lv' := [(1, .int v29), (0, .ref 115)]) kc_69_43 rfl rfl ev29 rfl (xm_lt ml_69 rfl) ?_
        refine xi_goto (pc' := 7) kc_69_46 rfl ?_
        refine xw_lv (b := [(0, .ref 115), (1, .int v29)]) (lvS_cons (lvS_cons (lvS_nil (show ([1, 0] : List Nat).Nodup by decide)) rfl) rfl) ?_
        exact i0 v29 hh27 (by omega) (fun v e => by have e2 := xl_val (u := v25) eh26.1 rfl e; subst e2; omega) K28 (by omega)
set_option maxHeartbeats 4000000 in
theorem mt_69_0 {J : xe_J} {ov : List (List Int32)} (hJ : ∀ d mj as h, mj ≠ xe_loff → J d mj as h = none) (hov1 : ov[1]? = some [10, 0, 0, 0, 0, 0]) (hov2 : ov[2]? = some [99, 30, 50, 50, 1, 99999]) {d : Nat} {Q : Option Value → xe_H → Prop} {h : xe_H} (T : xt h) (kk : (∀ h' : xe_H, xk [(0, 9), (115, 1), (83, 0), (29, 0), (31, 0), (33, 0), (35, 0), (37, 0), (39, 0), (41, 0), (43, 0), (45, 0), (47, 0), (49, 0), (51, 0), (125, 0), (66, 8), (115, 18), (71, 0), (132, 0)] h h' → Q none h')) : xw J ov (d + 1) 69 (0, [(0, .ref 115)], [], h) Q := by
  have K : xk [(0, 9), (115, 1), (83, 0), (29, 0), (31, 0), (33, 0), (35, 0), (37, 0), (39, 0), (41, 0), (43, 0), (45, 0), (47, 0), (49, 0), (51, 0), (125, 0), (66, 8), (115, 18), (71, 0), (132, 0)] h h := xk_re T
  refine xi_aload_n (pc' := 1) (x := 115) kc_69_0 rfl rfl ?_
  refine xi_iconst (pc' := 2) (v := 0) kc_69_1 rfl rfl ?_
  refine xp_115 K.1 (fun u1 u2 u3 u4 u5 u6 u7 u8 u9 u10 u11 u12 u13 bu1 bu2 bu3 bu4 bu5 bu6 bu7 bu8 bu9 bu10 bu11 bu12 bu13 A14 => ?_)
  refine xi_putfield (pc' := 5) (fs' := [.int u1, .int u2, .ref 116, .ref 117, .ref 118, .ref 119, .ref 120, .ref 121, .ref 122, .ref 123, .ref 124, .ref 125, .ref 126, .ref 127, .ref 128, .ref 129, .int u3, .ref 130, .int u4, .ref 131, .ref 132, .ref 133, .ref 134, .int u5, .ref 135, .ref 136, .ref 137, .ref 138, .ref 139, .ref 140, .ref 141, .ref 142, .int u6, .int u7, .int u8, .ref 143, .ref 144, .ref 145, .ref 146, .ref 147, .ref 148, .int u9, .ref 149, .ref 150, .ref 151, .int u10, .ref 152, .ref 153, .ref 154, .ref 155, .ref 156, .ref 157, .ref 158, .ref 159, .int 0, .ref 160, .int u12, .ref 161, .ref 162, .ref 163, .ref 164, .int u13, .ref 165, .ref 166]) kc_69_2 rfl rfl rfl A14 rfl rfl rfl (Nat.le_of_ble_eq_true rfl) rfl (fun hh16 eh15 => ?_)
  have K17 := xk_pf (k := 54) (v := 0) K (xk_wf rfl) xD_115 A14 rfl (by first | omega | decide) (by first | omega | decide) eh15 rfl
  refine xi_iconst (pc' := 6) (v := 0) kc_69_5 rfl rfl ?_
  refine xi_istore_n (pc' := 7) (lv' := [(1, .int 0), (0, .ref 115)]) kc_69_6 rfl rfl (xm_lt ml_69 rfl) ?_
  have zc0 : (0 : Int32).toInt = 0 := by decide
  refine xw_lv (b := [(0, .ref 115), (1, .int 0)]) (lvS_cons (lvS_cons (lvS_nil (show ([1, 0] : List Nat).Nodup by decide)) rfl) rfl) ?_
  exact (lp_69_0 hJ hov1 hov2 (d := d) (hb := hh16) (fun h9 K9 => kk h9 (xk_tr K17 K9 rfl)) 25) 0 hh16 (by omega) (fun v e => by have e2 := xl_val (u := 0) eh15.1 rfl e; subst e2; omega) (xk_re K17.1) (by omega)
set_option maxHeartbeats 4000000 in
theorem lp_68_0 {J : xe_J} {ov : List (List Int32)} (hJ : ∀ d mj as h, mj ≠ xe_loff → J d mj as h = none) (hov1 : ov[1]? = some [10, 0, 0, 0, 0, 0]) (hov2 : ov[2]? = some [99, 30, 50, 50, 1, 99999]) {d : Nat} {Q : Option Value → xe_H → Prop} {hb : xe_H} (kk : (∀ (r : Int32) (h' : xe_H), xk [(0, 9), (115, 1), (83, 0), (29, 0), (31, 0), (33, 0), (35, 0), (37, 0), (39, 0), (41, 0), (43, 0), (45, 0), (47, 0), (49, 0), (51, 0), (125, 0), (66, 8), (115, 18), (71, 0), (132, 0)] hb h' → Q (some (.int r)) h')) : ∀ m : Nat, (∀ (x1 : Int32) (x2 : Int32) (x3 : Int32) (h : xe_H), (0 ≤ x1.toInt ∧ x1.toInt ≤ 1) → (0 ≤ x3.toInt ∧ x3.toInt ≤ 24) → xk [(0, 9), (115, 1), (83, 0), (29, 0), (31, 0), (33, 0), (35, 0), (37, 0), (39, 0), (41, 0), (43, 0), (45, 0), (47, 0), (49, 0), (51, 0), (125, 0), (66, 8), (115, 18), (71, 0), (132, 0)] hb h → (-25) * x3.toInt + 436208266 < (m : Int) → xw J ov (d + 2) 68 (45, [(0, .ref 115), (1, .int x1), (2, .int x2), (3, .int x3)], [], h) Q) ∧ (∀ (x1 : Int32) (x2 : Int32) (x3 : Int32) (x4 : Int32) (h : xe_H), (0 ≤ x1.toInt ∧ x1.toInt ≤ 1) → (0 ≤ x3.toInt ∧ x3.toInt ≤ 23) → (0 ≤ x4.toInt ∧ x4.toInt ≤ 23) → xk [(0, 9), (115, 1), (83, 0), (29, 0), (31, 0), (33, 0), (35, 0), (37, 0), (39, 0), (41, 0), (43, 0), (45, 0), (47, 0), (49, 0), (51, 0), (125, 0), (66, 8), (115, 18), (71, 0), (132, 0)] hb h → (-25) * x3.toInt + (-1) * x4.toInt + 436208265 < (m : Int) → xw J ov (d + 2) 68 (77, [(0, .ref 115), (1, .int x1), (2, .int x2), (3, .int x3), (4, .int x4)], [], h) Q) ∧ (∀ (x1 : Int32) (x2 : Int32) (x3 : Int32) (x4 : Int32) (x5 : Int32) (x6 : Int32) (h : xe_H), (0 ≤ x1.toInt ∧ x1.toInt ≤ 1) → (0 ≤ x6.toInt ∧ x6.toInt ≤ 16777216) → xk [(0, 9), (115, 1), (83, 0), (29, 0), (31, 0), (33, 0), (35, 0), (37, 0), (39, 0), (41, 0), (43, 0), (45, 0), (47, 0), (49, 0), (51, 0), (125, 0), (66, 8), (115, 18), (71, 0), (132, 0)] hb h → (-26) * x6.toInt + 436207641 < (m : Int) → xw J ov (d + 2) 68 (146, [(0, .ref 115), (1, .int x1), (2, .int x2), (3, .int x3), (4, .int x4), (5, .int x5), (6, .int x6)], [], h) Q) ∧ (∀ (x1 : Int32) (x2 : Int32) (x3 : Int32) (x4 : Int32) (x5 : Int32) (x6 : Int32) (x7 : Int32) (x8 : Int32) (h : xe_H), (0 ≤ x1.toInt ∧ x1.toInt ≤ 1) → (0 ≤ x6.toInt ∧ x6.toInt ≤ 16777215) → (0 ≤ x8.toInt ∧ x8.toInt ≤ 24) → xk [(0, 9), (115, 1), (83, 0), (29, 0), (31, 0), (33, 0), (35, 0), (37, 0), (39, 0), (41, 0), (43, 0), (45, 0), (47, 0), (49, 0), (51, 0), (125, 0), (66, 8), (115, 18), (71, 0), (132, 0)] hb h → (-26) * x6.toInt + (-1) * x8.toInt + 436207640 < (m : Int) → xw J ov (d + 2) 68 (172, [(0, .ref 115), (1, .int x1), (2, .int x2), (3, .int x3), (4, .int x4), (5, .int x5), (6, .int x6), (7, .int x7), (8, .int x8)], [], h) Q) := by
  intro m
  induction m with
  | zero =>
    refine ⟨?_, ?_, ?_, ?_⟩
    · intro x1 x2 x3 h b1 b3 K hm; have rx2 := xc_rng x2; exfalso; omega
    · intro x1 x2 x3 x4 h b1 b3 b4 K hm; have rx2 := xc_rng x2; exfalso; omega
    · intro x1 x2 x3 x4 x5 x6 h b1 b6 K hm; have rx2 := xc_rng x2; have rx3 := xc_rng x3; have rx4 := xc_rng x4; have rx5 := xc_rng x5; exfalso; omega
    · intro x1 x2 x3 x4 x5 x6 x7 x8 h b1 b6 b8 K hm; have rx2 := xc_rng x2; have rx3 := xc_rng x3; have rx4 := xc_rng x4; have rx5 := xc_rng x5; have rx7 := xc_rng x7; exfalso; omega
  | succ m ih =>
    obtain ⟨i0, i1, i2, i3⟩ := ih
    refine ⟨?_, ?_, ?_, ?_⟩
    · intro x1 x2 x3 h b1 b3 K hm
      have rx2 := xc_rng x2
      refine xi_iload_n (pc' := 46) (x := x3) kc_68_45 rfl rfl ?_
      refine xi_aload_n (pc' := 47) (x := 115) kc_68_46 rfl rfl ?_
      refine xp_115 K.1 (fun u1 u2 u3 u4 u5 u6 u7 u8 u9 u10 u11 u12 u13 bu1 bu2 bu3 bu4 bu5 bu6 bu7 bu8 bu9 bu10 bu11 bu12 bu13 A14 => ?_)
      refine xi_getfield (pc' := 50) (v := .int u11) kc_68_47 rfl rfl rfl A14 rfl ?_
      by_cases c15 : u11.toInt ≤ x3.toInt
      · refine xi_cmt (pc' := 132) kc_68_50 rfl (xc_ge_t (X := x3.toInt) (Y := u11.toInt) rfl rfl (by omega)) ?_
        refine xi_aload_n (pc' := 133) (x := 115) kc_68_132 rfl rfl ?_
        refine xi_virtual (mj := 66) (as := []) (st1 := []) (lv0 := [(0, .ref 115)]) kc_68_133 rfl rfl rfl rfl rfl A14 (Nat.le_of_ble_eq_true rfl) (hJ _ _ _ _ (by decide)) (xm_le ml_66 rfl) rfl ?_
        refine mt_66_0 hJ hov1 hov2 (d := d)  K.1 (fun r16 hh17 K18 => ?_)
        have br16 := xc_rng r16
        have K19 := xk_tr K K18 rfl
        refine xp_115 K19.1 (fun u20 u21 u22 u23 u24 u25 u26 u27 u28 u29 u30 u31 u32 bu20 bu21 bu22 bu23 bu24 bu25 bu26 bu27 bu28 bu29 bu30 bu31 bu32 A33 => ?_)
        have e34 : u2 = u21 := xk_eqi (q := 1) K18 rfl A14 A33 rfl rfl
        subst e34
        have e35 : u4 = u23 := xk_eqi (q := 18) K18 rfl A14 A33 rfl rfl
        subst e35
        show xw J ov (d + 2) 68 (136, [(0, .ref 115), (1, .int x1), (2, .int x2), (3, .int x3)], [.int r16], hh17) _
        refine xi_istore_n (pc' := 137) (lv' := [(3, .int r16), (0, .ref 115), (1, .int x1), (2, .int x2)]) kc_68_136 rfl rfl (xm_lt ml_68 rfl) ?_
        refine xi_iconst (pc' := 138) (v := 0) kc_68_137 rfl rfl ?_
        refine xi_istore (pc' := 140) (lv' := [(4, .int 0), (3, .int r16), (0, .ref 115), (1, .int x1), (2, .int x2)]) kc_68_138 rfl rfl (xm_lt ml_68 rfl) ?_
        refine xi_iconst (pc' := 141) (v := 0) kc_68_140 rfl rfl ?_
        refine xi_istore (pc' := 143) (lv' := [(5, .int 0), (4, .int 0), (3, .int r16), (0, .ref 115), (1, .int x1), (2, .int x2)]) kc_68_141 rfl rfl (xm_lt ml_68 rfl) ?_
        refine xi_iconst (pc' := 144) (v := 0) kc_68_143 rfl rfl ?_
        refine xi_istore (pc' := 146) (lv' := [(6, .int 0), (5, .int 0), (4, .int 0), (3, .int r16), (0, .ref 115), (1, .int x1), (2, .int x2)]) kc_68_144 rfl rfl (xm_lt ml_68 rfl) ?_
        have zc0 : (0 : Int32).toInt = 0 := by decide
        refine xw_lv (b := [(0, .ref 115), (1, .int x1), (2, .int x2), (3, .int r16), (4, .int 0), (5, .int 0), (6, .int 0)]) (lvS_cons (lvS_cons (lvS_cons (lvS_cons (lvS_cons (lvS_cons (lvS_cons (lvS_nil (show ([6, 5, 4, 3, 0, 1, 2] : List Nat).Nodup by decide)) rfl) rfl) rfl) rfl) rfl) rfl) rfl) ?_
        exact i2 x1 x2 r16 0 0 0 hh17 (by omega) (by omega) K19 (by omega)
      · refine xi_cmf (pc' := 53) kc_68_50 rfl (xc_ge_f (X := x3.toInt) (Y := u11.toInt) rfl rfl (by omega)) ?_
        refine xi_iload_n (pc' := 54) (x := x2) kc_68_53 rfl rfl ?_
        refine xi_aload_n (pc' := 55) (x := 115) kc_68_54 rfl rfl ?_
        refine xi_getfield (pc' := 58) (v := .ref 158) kc_68_55 rfl rfl rfl A14 rfl ?_
        refine xi_aload_n (pc' := 59) (x := 115) kc_68_58 rfl rfl ?_
        refine xi_getfield (pc' := 62) (v := .ref 159) kc_68_59 rfl rfl rfl A14 rfl ?_
        refine xi_iload_n (pc' := 63) (x := x3) kc_68_62 rfl rfl ?_
        refine xcps4 (xk_arr K.1 xD_159) (fun y36 A36 hy36 ry36 => ?_)
        refine xcps4 (xj_get hy36 ry36 (i := x3) (by omega) (by omega)) (fun v37 ev37 bv37 dv37 => ?_)
        refine xi_iaload (pc' := 64) (v := v37) kc_68_63 rfl A36 (by decide) rfl (xi_in (by omega) (by rw [hy36]; omega)) ev37 ?_
        refine xcps4 (xk_arr K.1 xD_158) (fun y38 A38 hy38 ry38 => ?_)
        refine xcps4 (xj_get hy38 ry38 (i := v37) (by omega) (by omega)) (fun v39 ev39 bv39 dv39 => ?_)
        refine xi_iaload (pc' := 65) (v := v39) kc_68_64 rfl A38 (by decide) rfl (xi_in (by omega) (by rw [hy38]; omega)) ev39 ?_
        refine xcps2 (α := Int32) ((x2 : Int32) + v39) (fun v40 ev40 => ?_)
        have rv40 := xc_rng v40
        refine xi_iadd (pc' := 66) (v := v40) kc_68_65 rfl ev40 ?_
        refine xi_istore_n (pc' := 67) (lv' := [(2, .int v40), (0, .ref 115), (1, .int x1), (3, .int x3)]) kc_68_66 rfl rfl (xm_lt ml_68 rfl) ?_
        refine xi_aload_n (pc' := 68) (x := 115) kc_68_67 rfl rfl ?_
        refine xi_getfield (pc' := 71) (v := .ref 160) kc_68_68 rfl rfl rfl A14 rfl ?_
        refine xi_iload_n (pc' := 72) (x := x3) kc_68_71 rfl rfl ?_
        refine xi_iconst (pc' := 73) (v := 0) kc_68_72 rfl rfl ?_
        refine xcps4 (xk_arr K.1 xD_160) (fun y41 A41 hy41 ry41 => ?_)
        refine xcps4 (xj_set (v := 0) hy41 ry41 x3 (by first | omega | decide) (by first | omega | decide)) (fun y42 s42 hy42 ry42 => ?_)
        refine xi_iastore (pc' := 74) (x' := y42) kc_68_73 rfl A41 rfl (xi_in (by omega) (by rw [hy41]; omega)) s42 (fun hh42 eh42 => ?_)
        have K43 := xk_pa K (xk_wa rfl) xD_160 hy42 ry42 eh42
        refine xi_iconst (pc' := 75) (v := 0) kc_68_74 rfl rfl ?_
        refine xi_istore (pc' := 77) (lv' := [(4, .int 0), (2, .int v40), (0, .ref 115), (1, .int x1), (3, .int x3)]) kc_68_75 rfl rfl (xm_lt ml_68 rfl) ?_
        have zc0 : (0 : Int32).toInt = 0 := by decide
        refine xw_lv (b := [(0, .ref 115), (1, .int x1), (2, .int v40), (3, .int x3), (4, .int 0)]) (lvS_cons (lvS_cons (lvS_cons (lvS_cons (lvS_cons (lvS_nil (show ([4, 2, 0, 1, 3] : List Nat).Nodup by decide)) rfl) rfl) rfl) rfl) rfl) ?_
        exact i1 x1 v40 x3 0 hh42 (by omega) (by omega) (by omega) K43 (by omega)
    · intro x1 x2 x3 x4 h b1 b3 b4 K hm
      have rx2 := xc_rng x2
      refine xi_iload (pc' := 79) (x := x4) kc_68_77 rfl rfl ?_
      refine xi_iload_n (pc' := 80) (x := x3) kc_68_79 rfl rfl ?_
      by_cases c1 : x3.toInt ≤ x4.toInt
      · refine xi_cmt (pc' := 126) kc_68_80 rfl (xc_ge_t (X := x4.toInt) (Y := x3.toInt) rfl rfl (by omega)) ?_
        refine xcps2 (α := Int32) (x3 + 1) (fun v2 ev2 => ?_)
        have zv2 : v2.toInt = (x3.toInt + 1) := by rw [← ev2]; exact (xz_add (X := x3.toInt) (Y := 1) rfl (by decide) (by omega) (by omega)).trans (by omega)
        refine xi_iinc (pc' := 129) (x := x3) (v := v2) (lv' := [(3, .int v2), (0, .ref 115), (1, .int x1), (2, .int x2), (4, .int x4)]) kc_68_126 rfl rfl ev2 rfl (xm_lt ml_68 rfl) ?_
        refine xi_goto (pc' := 45) kc_68_129 rfl ?_
        refine xw_lv (b := [(0, .ref 115), (1, .int x1), (2, .int x2), (3, .int v2)]) (lvS_cons (lvS_cons (lvS_cons (lvS_cons (lvS_nil (show ([3, 0, 1, 2, 4] : List Nat).Nodup by decide)) rfl) rfl) rfl) rfl) ?_
        exact i0 x1 x2 v2 h (by omega) (by omega) K (by omega)
      · refine xi_cmf (pc' := 83) kc_68_80 rfl (xc_ge_f (X := x4.toInt) (Y := x3.toInt) rfl rfl (by omega)) ?_
        refine xi_aload_n (pc' := 84) (x := 115) kc_68_83 rfl rfl ?_
        refine xp_115 K.1 (fun u3 u4 u5 u6 u7 u8 u9 u10 u11 u12 u13 u14 u15 bu3 bu4 bu5 bu6 bu7 bu8 bu9 bu10 bu11 bu12 bu13 bu14 bu15 A16 => ?_)
        refine xi_getfield (pc' := 87) (v := .ref 160) kc_68_84 rfl rfl rfl A16 rfl ?_
        refine xi_iload_n (pc' := 88) (x := x3) kc_68_87 rfl rfl ?_
        refine xi_dup2 (pc' := 89) kc_68_88 rfl ⟨rfl, rfl⟩ ?_
        refine xcps4 (xk_arr K.1 xD_160) (fun y17 A17 hy17 ry17 => ?_)
        refine xcps4 (xj_get hy17 ry17 (i := x3) (by omega) (by omega)) (fun v18 ev18 bv18 dv18 => ?_)
        refine xi_iaload (pc' := 90) (v := v18) kc_68_89 rfl A17 (by decide) rfl (xi_in (by omega) (by rw [hy17]; omega)) ev18 ?_
        refine xi_aload_n (pc' := 91) (x := 115) kc_68_90 rfl rfl ?_
        refine xi_aload_n (pc' := 92) (x := 115) kc_68_91 rfl rfl ?_
        refine xi_getfield (pc' := 95) (v := .ref 159) kc_68_92 rfl rfl rfl A16 rfl ?_
        refine xi_iload_n (pc' := 96) (x := x3) kc_68_95 rfl rfl ?_
        refine xcps4 (xk_arr K.1 xD_159) (fun y19 A19 hy19 ry19 => ?_)
        refine xcps4 (xj_get hy19 ry19 (i := x3) (by omega) (by omega)) (fun v20 ev20 bv20 dv20 => ?_)
        refine xi_iaload (pc' := 97) (v := v20) kc_68_96 rfl A19 (by decide) rfl (xi_in (by omega) (by rw [hy19]; omega)) ev20 ?_
        refine xi_aload_n (pc' := 98) (x := 115) kc_68_97 rfl rfl ?_
        refine xi_getfield (pc' := 101) (v := .ref 159) kc_68_98 rfl rfl rfl A16 rfl ?_
        refine xi_iload (pc' := 103) (x := x4) kc_68_101 rfl rfl ?_
        refine xcps4 (xj_get hy19 ry19 (i := x4) (by omega) (by omega)) (fun v21 ev21 bv21 dv21 => ?_)
        refine xi_iaload (pc' := 104) (v := v21) kc_68_103 rfl A19 (by decide) rfl (xi_in (by omega) (by rw [hy19]; omega)) ev21 ?_
        refine xi_virtual (mj := 67) (as := [.int v20, .int v21]) (st1 := [.int v18, .int x3, .ref 160]) (lv0 := [(0, .ref 115), (1, .int v20), (2, .int v21)]) kc_68_104 rfl rfl rfl rfl rfl A16 (Nat.le_of_ble_eq_true rfl) (hJ _ _ _ _ (by decide)) (xm_le ml_67 rfl) rfl ?_
        refine xi_aload_n (pc' := 1) (x := 115) kc_67_0 rfl rfl ?_
        refine xi_getfield (pc' := 4) (v := .ref 156) kc_67_1 rfl rfl rfl A16 rfl ?_
        refine xi_iload_n (pc' := 5) (x := v20) kc_67_4 rfl rfl ?_
        refine xcps4 (xk_arr K.1 xD_156) (fun y22 A22 hy22 ry22 => ?_)
        refine xcps4 (xj_get hy22 ry22 (i := v20) (by omega) (by omega)) (fun v23 ev23 bv23 dv23 => ?_)
        refine xi_iaload (pc' := 6) (v := v23) kc_67_5 rfl A22 (by decide) rfl (xi_in (by omega) (by rw [hy22]; omega)) ev23 ?_
        refine xi_aload_n (pc' := 7) (x := 115) kc_67_6 rfl rfl ?_
        refine xi_getfield (pc' := 10) (v := .ref 156) kc_67_7 rfl rfl rfl A16 rfl ?_
        refine xi_iload_n (pc' := 11) (x := v21) kc_67_10 rfl rfl ?_
        refine xcps4 (xj_get hy22 ry22 (i := v21) (by omega) (by omega)) (fun v24 ev24 bv24 dv24 => ?_)
        refine xi_iaload (pc' := 12) (v := v24) kc_67_11 rfl A22 (by decide) rfl (xi_in (by omega) (by rw [hy22]; omega)) ev24 ?_
        refine xcps2 (α := Int32) (v23 - v24) (fun v25 ev25 => ?_)
        have zv25 : v25.toInt = (v23.toInt + (-1) * v24.toInt) := by rw [← ev25]; exact (xz_sub (X := v23.toInt) (Y := v24.toInt) rfl rfl (by omega) (by omega)).trans (by omega)
        refine xi_isub (pc' := 13) (v := v25) kc_67_12 rfl ev25 ?_
        refine xi_istore_n (pc' := 14) (lv' := [(3, .int v25), (0, .ref 115), (1, .int v20), (2, .int v21)]) kc_67_13 rfl rfl (xm_lt ml_67 rfl) ?_
        refine xi_aload_n (pc' := 15) (x := 115) kc_67_14 rfl rfl ?_
        refine xi_getfield (pc' := 18) (v := .ref 157) kc_67_15 rfl rfl rfl A16 rfl ?_
        refine xi_iload_n (pc' := 19) (x := v20) kc_67_18 rfl rfl ?_
        refine xcps4 (xk_arr K.1 xD_157) (fun y26 A26 hy26 ry26 => ?_)
        refine xcps4 (xj_get hy26 ry26 (i := v20) (by omega) (by omega)) (fun v27 ev27 bv27 dv27 => ?_)
        refine xi_iaload (pc' := 20) (v := v27) kc_67_19 rfl A26 (by decide) rfl (xi_in (by omega) (by rw [hy26]; omega)) ev27 ?_
        refine xi_aload_n (pc' := 21) (x := 115) kc_67_20 rfl rfl ?_
        refine xi_getfield (pc' := 24) (v := .ref 157) kc_67_21 rfl rfl rfl A16 rfl ?_
        refine xi_iload_n (pc' := 25) (x := v21) kc_67_24 rfl rfl ?_
        refine xcps4 (xj_get hy26 ry26 (i := v21) (by omega) (by omega)) (fun v28 ev28 bv28 dv28 => ?_)
        refine xi_iaload (pc' := 26) (v := v28) kc_67_25 rfl A26 (by decide) rfl (xi_in (by omega) (by rw [hy26]; omega)) ev28 ?_
        refine xcps2 (α := Int32) (v27 - v28) (fun v29 ev29 => ?_)
        have zv29 : v29.toInt = (v27.toInt + (-1) * v28.toInt) := by rw [← ev29]; exact (xz_sub (X := v27.toInt) (Y := v28.toInt) rfl rfl (by omega) (by omega)).trans (by omega)
        refine xi_isub (pc' := 27) (v := v29) kc_67_26 rfl ev29 ?_
        refine xi_istore (pc' := 29) (lv' := [(4, .int v29), (3, .int v25), (0, .ref 115), (1, .int v20), (2, .int v21)]) kc_67_27 rfl rfl (xm_lt ml_67 rfl) ?_
        refine xi_iload_n (pc' := 30) (x := v25) kc_67_29 rfl rfl ?_
        by_cases c30 : (v23.toInt + (-1) * v24.toInt) = 0
        · refine xi_iff (pc' := 33) kc_67_30 rfl (xc_ne_f (X := (v23.toInt + (-1) * v24.toInt)) (Y := 0) zv25 (by decide) (by omega)) ?_
          refine xi_iload (pc' := 35) (x := v29) kc_67_33 rfl rfl ?_
          refine xi_iconst (pc' := 36) (v := 1) kc_67_35 rfl rfl ?_
          by_cases c31 : (v27.toInt + (-1) * v28.toInt) = 1
          · refine xi_cmt (pc' := 60) kc_67_36 rfl (xc_eq_t (X := (v27.toInt + (-1) * v28.toInt)) (Y := 1) zv29 (by decide) (by omega)) ?_
            refine xi_iconst (pc' := 61) (v := 1) kc_67_60 rfl rfl ?_
            refine xi_goto (pc' := 65) kc_67_61 rfl ?_
            refine xi_ireturn kc_67_65 mr_67 rfl ?_
            show xw J ov (d + 2) 68 (107, [(0, .ref 115), (1, .int x1), (2, .int x2), (3, .int x3), (4, .int x4)], [.int 1, .int v18, .int x3, .ref 160], h) _
            refine xi_iff (pc' := 110) kc_68_107 rfl rfl ?_
            refine xi_iconst (pc' := 111) (v := 1) kc_68_110 rfl rfl ?_
            refine xi_iload (pc' := 113) (x := x4) kc_68_111 rfl rfl ?_
            refine xcps2 (α := Int32) ((1 : Int32) <<< (x4 &&& 31)) (fun v32 ev32 => ?_)
            have rv32 := xc_rng v32
            have bv32 : 1 ≤ v32.toInt ∧ v32.toInt ≤ 16777216 := by rw [← ev32]; exact xj_shl24 (by omega) (by omega)
            refine xi_ishl (pc' := 114) (v := v32) kc_68_113 rfl ev32 ?_
            refine xi_goto (pc' := 118) kc_68_114 rfl ?_
            refine xcps2 (α := Int32) ((v18 : Int32) ||| v32) (fun v33 ev33 => ?_)
            have rv33 := xc_rng v33
            refine xi_ior (pc' := 119) (v := v33) kc_68_118 rfl ev33 ?_
            refine xcps4 (xj_set (v := v33) hy17 ry17 x3 (by first | omega | decide) (by first | omega | decide)) (fun y34 s34 hy34 ry34 => ?_)
            refine xi_iastore (pc' := 120) (x' := y34) kc_68_119 rfl A17 rfl (xi_in (by omega) (by rw [hy17]; omega)) s34 (fun hh34 eh34 => ?_)
            have K35 := xk_pa K (xk_wa rfl) xD_160 hy34 ry34 eh34
            refine xcps2 (α := Int32) (x4 + 1) (fun v36 ev36 => ?_)
            have zv36 : v36.toInt = (x4.toInt + 1) := by rw [← ev36]; exact (xz_add (X := x4.toInt) (Y := 1) rfl (by decide) (by omega) (by omega)).trans (by omega)
            refine xi_iinc (pc' := 123) (x := x4) (v := v36) (lv' := [(4, .int v36), (0, .ref 115), (1, .int x1), (2, .int x2), (3, .int x3)]) kc_68_120 rfl rfl ev36 rfl (xm_lt ml_68 rfl) ?_
            refine xi_goto (pc' := 77) kc_68_123 rfl ?_
            refine xw_lv (b := [(0, .ref 115), (1, .int x1), (2, .int x2), (3, .int x3), (4, .int v36)]) (lvS_cons (lvS_cons (lvS_cons (lvS_cons (lvS_cons (lvS_nil (show ([4, 0, 1, 2, 3] : List Nat).Nodup by decide)) rfl) rfl) rfl) rfl) rfl) ?_
            exact i1 x1 x2 x3 v36 hh34 (by omega) (by omega) (by omega) K35 (by omega)
          · refine xi_cmf (pc' := 39) kc_67_36 rfl (xc_eq_f (X := (v27.toInt + (-1) * v28.toInt)) (Y := 1) zv29 (by decide) (by omega)) ?_
            refine xi_iload (pc' := 41) (x := v29) kc_67_39 rfl rfl ?_
            refine xi_iconst (pc' := 42) (v := (-1)) kc_67_41 rfl rfl ?_
            by_cases c37 : (v27.toInt + (-1) * v28.toInt) = (-1)
            · refine xi_cmt (pc' := 60) kc_67_42 rfl (xc_eq_t (X := (v27.toInt + (-1) * v28.toInt)) (Y := (-1)) zv29 (by decide) (by omega)) ?_
              refine xi_iconst (pc' := 61) (v := 1) kc_67_60 rfl rfl ?_
              refine xi_goto (pc' := 65) kc_67_61 rfl ?_
              refine xi_ireturn kc_67_65 mr_67 rfl ?_
              show xw J ov (d + 2) 68 (107, [(0, .ref 115), (1, .int x1), (2, .int x2), (3, .int x3), (4, .int x4)], [.int 1, .int v18, .int x3, .ref 160], h) _
              refine xi_iff (pc' := 110) kc_68_107 rfl rfl ?_
              refine xi_iconst (pc' := 111) (v := 1) kc_68_110 rfl rfl ?_
              refine xi_iload (pc' := 113) (x := x4) kc_68_111 rfl rfl ?_
              refine xcps2 (α := Int32) ((1 : Int32) <<< (x4 &&& 31)) (fun v38 ev38 => ?_)
              have rv38 := xc_rng v38
              have bv38 : 1 ≤ v38.toInt ∧ v38.toInt ≤ 16777216 := by rw [← ev38]; exact xj_shl24 (by omega) (by omega)
              refine xi_ishl (pc' := 114) (v := v38) kc_68_113 rfl ev38 ?_
              refine xi_goto (pc' := 118) kc_68_114 rfl ?_
              refine xcps2 (α := Int32) ((v18 : Int32) ||| v38) (fun v39 ev39 => ?_)
              have rv39 := xc_rng v39
              refine xi_ior (pc' := 119) (v := v39) kc_68_118 rfl ev39 ?_
              refine xcps4 (xj_set (v := v39) hy17 ry17 x3 (by first | omega | decide) (by first | omega | decide)) (fun y40 s40 hy40 ry40 => ?_)
              refine xi_iastore (pc' := 120) (x' := y40) kc_68_119 rfl A17 rfl (xi_in (by omega) (by rw [hy17]; omega)) s40 (fun hh40 eh40 => ?_)
              have K41 := xk_pa K (xk_wa rfl) xD_160 hy40 ry40 eh40
              refine xcps2 (α := Int32) (x4 + 1) (fun v42 ev42 => ?_)
              have zv42 : v42.toInt = (x4.toInt + 1) := by rw [← ev42]; exact (xz_add (X := x4.toInt) (Y := 1) rfl (by decide) (by omega) (by omega)).trans (by omega)
              refine xi_iinc (pc' := 123) (x := x4) (v := v42) (lv' := [(4, .int v42), (0, .ref 115), (1, .int x1), (2, .int x2), (3, .int x3)]) kc_68_120 rfl rfl ev42 rfl (xm_lt ml_68 rfl) ?_
              refine xi_goto (pc' := 77) kc_68_123 rfl ?_
              refine xw_lv (b := [(0, .ref 115), (1, .int x1), (2, .int x2), (3, .int x3), (4, .int v42)]) (lvS_cons (lvS_cons (lvS_cons (lvS_cons (lvS_cons (lvS_nil (show ([4, 0, 1, 2, 3] : List Nat).Nodup by decide)) rfl) rfl) rfl) rfl) rfl) ?_
              exact i1 x1 x2 x3 v42 hh40 (by omega) (by omega) (by omega) K41 (by omega)
            · refine xi_cmf (pc' := 45) kc_67_42 rfl (xc_eq_f (X := (v27.toInt + (-1) * v28.toInt)) (Y := (-1)) zv29 (by decide) (by omega)) ?_
              refine xi_iload (pc' := 47) (x := v29) kc_67_45 rfl rfl ?_
              by_cases c43 : (v27.toInt + (-1) * v28.toInt) = 0
              · refine xi_iff (pc' := 50) kc_67_47 rfl (xc_ne_f (X := (v27.toInt + (-1) * v28.toInt)) (Y := 0) zv29 (by decide) (by omega)) ?_
                refine xi_iload_n (pc' := 51) (x := v25) kc_67_50 rfl rfl ?_
                refine xi_iconst (pc' := 52) (v := 1) kc_67_51 rfl rfl ?_
                refine xi_cmf (pc' := 55) kc_67_52 rfl (xc_eq_f (X := (v23.toInt + (-1) * v24.toInt)) (Y := 1) zv25 (by decide) (by omega)) ?_
                refine xi_iload_n (pc' := 56) (x := v25) kc_67_55 rfl rfl ?_
                refine xi_iconst (pc' := 57) (v := (-1)) kc_67_56 rfl rfl ?_
                refine xi_cmt (pc' := 64) kc_67_57 rfl (xc_ne_t (X := (v23.toInt + (-1) * v24.toInt)) (Y := (-1)) zv25 (by decide) (by omega)) ?_
                refine xi_iconst (pc' := 65) (v := 0) kc_67_64 rfl rfl ?_
                refine xi_ireturn kc_67_65 mr_67 rfl ?_
                show xw J ov (d + 2) 68 (107, [(0, .ref 115), (1, .int x1), (2, .int x2), (3, .int x3), (4, .int x4)], [.int 0, .int v18, .int x3, .ref 160], h) _
                refine xi_ift (pc' := 117) kc_68_107 rfl rfl ?_
                refine xi_iconst (pc' := 118) (v := 0) kc_68_117 rfl rfl ?_
                refine xcps2 (α := Int32) ((v18 : Int32) ||| 0) (fun v44 ev44 => ?_)
                have rv44 := xc_rng v44
                refine xi_ior (pc' := 119) (v := v44) kc_68_118 rfl ev44 ?_
                refine xcps4 (xj_set (v := v44) hy17 ry17 x3 (by first | omega | decide) (by first | omega | decide)) (fun y45 s45 hy45 ry45 => ?_)
                refine xi_iastore (pc' := 120) (x' := y45) kc_68_119 rfl A17 rfl (xi_in (by omega) (by rw [hy17]; omega)) s45 (fun hh45 eh45 => ?_)
                have K46 := xk_pa K (xk_wa rfl) xD_160 hy45 ry45 eh45
                refine xcps2 (α := Int32) (x4 + 1) (fun v47 ev47 => ?_)
                have zv47 : v47.toInt = (x4.toInt + 1) := by rw [← ev47]; exact (xz_add (X := x4.toInt) (Y := 1) rfl (by decide) (by omega) (by omega)).trans (by omega)
                refine xi_iinc (pc' := 123) (x := x4) (v := v47) (lv' := [(4, .int v47), (0, .ref 115), (1, .int x1), (2, .int x2), (3, .int x3)]) kc_68_120 rfl rfl ev47 rfl (xm_lt ml_68 rfl) ?_
                refine xi_goto (pc' := 77) kc_68_123 rfl ?_
                refine xw_lv (b := [(0, .ref 115), (1, .int x1), (2, .int x2), (3, .int x3), (4, .int v47)]) (lvS_cons (lvS_cons (lvS_cons (lvS_cons (lvS_cons (lvS_nil (show ([4, 0, 1, 2, 3] : List Nat).Nodup by decide)) rfl) rfl) rfl) rfl) rfl) ?_
                exact i1 x1 x2 x3 v47 hh45 (by omega) (by omega) (by omega) K46 (by omega)
              · refine xi_ift (pc' := 64) kc_67_47 rfl (xc_ne_t (X := (v27.toInt + (-1) * v28.toInt)) (Y := 0) zv29 (by decide) (by omega)) ?_
                refine xi_iconst (pc' := 65) (v := 0) kc_67_64 rfl rfl ?_
                refine xi_ireturn kc_67_65 mr_67 rfl ?_
                show xw J ov (d + 2) 68 (107, [(0, .ref 115), (1, .int x1), (2, .int x2), (3, .int x3), (4, .int x4)], [.int 0, .int v18, .int x3, .ref 160], h) _
                refine xi_ift (pc' := 117) kc_68_107 rfl rfl ?_
                refine xi_iconst (pc' := 118) (v := 0) kc_68_117 rfl rfl ?_
                refine xcps2 (α := Int32) ((v18 : Int32) ||| 0) (fun v48 ev48 => ?_)
                have rv48 := xc_rng v48
                refine xi_ior (pc' := 119) (v := v48) kc_68_118 rfl ev48 ?_
                refine xcps4 (xj_set (v := v48) hy17 ry17 x3 (by first | omega | decide) (by first | omega | decide)) (fun y49 s49 hy49 ry49 => ?_)
                refine xi_iastore (pc' := 120) (x' := y49) kc_68_119 rfl A17 rfl (xi_in (by omega) (by rw [hy17]; omega)) s49 (fun hh49 eh49 => ?_)
                have K50 := xk_pa K (xk_wa rfl) xD_160 hy49 ry49 eh49
                refine xcps2 (α := Int32) (x4 + 1) (fun v51 ev51 => ?_)
                have zv51 : v51.toInt = (x4.toInt + 1) := by rw [← ev51]; exact (xz_add (X := x4.toInt) (Y := 1) rfl (by decide) (by omega) (by omega)).trans (by omega)
                refine xi_iinc (pc' := 123) (x := x4) (v := v51) (lv' := [(4, .int v51), (0, .ref 115), (1, .int x1), (2, .int x2), (3, .int x3)]) kc_68_120 rfl rfl ev51 rfl (xm_lt ml_68 rfl) ?_
                refine xi_goto (pc' := 77) kc_68_123 rfl ?_
                refine xw_lv (b := [(0, .ref 115), (1, .int x1), (2, .int x2), (3, .int x3), (4, .int v51)]) (lvS_cons (lvS_cons (lvS_cons (lvS_cons (lvS_cons (lvS_nil (show ([4, 0, 1, 2, 3] : List Nat).Nodup by decide)) rfl) rfl) rfl) rfl) rfl) ?_
                exact i1 x1 x2 x3 v51 hh49 (by omega) (by omega) (by omega) K50 (by omega)
        · refine xi_ift (pc' := 45) kc_67_30 rfl (xc_ne_t (X := (v23.toInt + (-1) * v24.toInt)) (Y := 0) zv25 (by decide) (by omega)) ?_
          refine xi_iload (pc' := 47) (x := v29) kc_67_45 rfl rfl ?_
          by_cases c52 : (v27.toInt + (-1) * v28.toInt) = 0
          · refine xi_iff (pc' := 50) kc_67_47 rfl (xc_ne_f (X := (v27.toInt + (-1) * v28.toInt)) (Y := 0) zv29 (by decide) (by omega)) ?_
            refine xi_iload_n (pc' := 51) (x := v25) kc_67_50 rfl rfl ?_
            refine xi_iconst (pc' := 52) (v := 1) kc_67_51 rfl rfl ?_
            by_cases c53 : (v23.toInt + (-1) * v24.toInt) = 1
            · refine xi_cmt (pc' := 60) kc_67_52 rfl (xc_eq_t (X := (v23.toInt + (-1) * v24.toInt)) (Y := 1) zv25 (by decide) (by omega)) ?_
              refine xi_iconst (pc' := 61) (v := 1) kc_67_60 rfl rfl ?_
              refine xi_goto (pc' := 65) kc_67_61 rfl ?_
              refine xi_ireturn kc_67_65 mr_67 rfl ?_
              show xw J ov (d + 2) 68 (107, [(0, .ref 115), (1, .int x1), (2, .int x2), (3, .int x3), (4, .int x4)], [.int 1, .int v18, .int x3, .ref 160], h) _
              refine xi_iff (pc' := 110) kc_68_107 rfl rfl ?_
              refine xi_iconst (pc' := 111) (v := 1) kc_68_110 rfl rfl ?_
              refine xi_iload (pc' := 113) (x := x4) kc_68_111 rfl rfl ?_
              refine xcps2 (α := Int32) ((1 : Int32) <<< (x4 &&& 31)) (fun v54 ev54 => ?_)
              have rv54 := xc_rng v54
              have bv54 : 1 ≤ v54.toInt ∧ v54.toInt ≤ 16777216 := by rw [← ev54]; exact xj_shl24 (by omega) (by omega)
              refine xi_ishl (pc' := 114) (v := v54) kc_68_113 rfl ev54 ?_
              refine xi_goto (pc' := 118) kc_68_114 rfl ?_
              refine xcps2 (α := Int32) ((v18 : Int32) ||| v54) (fun v55 ev55 => ?_)
              have rv55 := xc_rng v55
              refine xi_ior (pc' := 119) (v := v55) kc_68_118 rfl ev55 ?_
              refine xcps4 (xj_set (v := v55) hy17 ry17 x3 (by first | omega | decide) (by first | omega | decide)) (fun y56 s56 hy56 ry56 => ?_)
              refine xi_iastore (pc' := 120) (x' := y56) kc_68_119 rfl A17 rfl (xi_in (by omega) (by rw [hy17]; omega)) s56 (fun hh56 eh56 => ?_)
              have K57 := xk_pa K (xk_wa rfl) xD_160 hy56 ry56 eh56
              refine xcps2 (α := Int32) (x4 + 1) (fun v58 ev58 => ?_)
              have zv58 : v58.toInt = (x4.toInt + 1) := by rw [← ev58]; exact (xz_add (X := x4.toInt) (Y := 1) rfl (by decide) (by omega) (by omega)).trans (by omega)
              refine xi_iinc (pc' := 123) (x := x4) (v := v58) (lv' := [(4, .int v58), (0, .ref 115), (1, .int x1), (2, .int x2), (3, .int x3)]) kc_68_120 rfl rfl ev58 rfl (xm_lt ml_68 rfl) ?_
              refine xi_goto (pc' := 77) kc_68_123 rfl ?_
              refine xw_lv (b := [(0, .ref 115), (1, .int x1), (2, .int x2), (3, .int x3), (4, .int v58)]) (lvS_cons (lvS_cons (lvS_cons (lvS_cons (lvS_cons (lvS_nil (show ([4, 0, 1, 2, 3] : List Nat).Nodup by decide)) rfl) rfl) rfl) rfl) rfl) ?_
              exact i1 x1 x2 x3 v58 hh56 (by omega) (by omega) (by omega) K57 (by omega)
            · refine xi_cmf (pc' := 55) kc_67_52 rfl (xc_eq_f (X := (v23.toInt + (-1) * v24.toInt)) (Y := 1) zv25 (by decide) (by omega)) ?_
              refine xi_iload_n (pc' := 56) (x := v25) kc_67_55 rfl rfl ?_
              refine xi_iconst (pc' := 57) (v := (-1)) kc_67_56 rfl rfl ?_
              by_cases c59 : (v23.toInt + (-1) * v24.toInt) = (-1)
              · refine xi_cmf (pc' := 60) kc_67_57 rfl (xc_ne_f (X := (v23.toInt + (-1) * v24.toInt)) (Y := (-1)) zv25 (by decide) (by omega)) ?_
                refine xi_iconst (pc' := 61) (v := 1) kc_67_60 rfl rfl ?_
                refine xi_goto (pc' := 65) kc_67_61 rfl ?_
                refine xi_ireturn kc_67_65 mr_67 rfl ?_
                show xw J ov (d + 2) 68 (107, [(0, .ref 115), (1, .int x1), (2, .int x2), (3, .int x3), (4, .int x4)], [.int 1, .int v18, .int x3, .ref 160], h) _
                refine xi_iff (pc' := 110) kc_68_107 rfl rfl ?_
                refine xi_iconst (pc' := 111) (v := 1) kc_68_110 rfl rfl ?_
                refine xi_iload (pc' := 113) (x := x4) kc_68_111 rfl rfl ?_
                refine xcps2 (α := Int32) ((1 : Int32) <<< (x4 &&& 31)) (fun v60 ev60 => ?_)
                have rv60 := xc_rng v60
                have bv60 : 1 ≤ v60.toInt ∧ v60.toInt ≤ 16777216 := by rw [← ev60]; exact xj_shl24 (by omega) (by omega)
                refine xi_ishl (pc' := 114) (v := v60) kc_68_113 rfl ev60 ?_
                refine xi_goto (pc' := 118) kc_68_114 rfl ?_
                refine xcps2 (α := Int32) ((v18 : Int32) ||| v60) (fun v61 ev61 => ?_)
                have rv61 := xc_rng v61
                refine xi_ior (pc' := 119) (v := v61) kc_68_118 rfl ev61 ?_
                refine xcps4 (xj_set (v := v61) hy17 ry17 x3 (by first | omega | decide) (by first | omega | decide)) (fun y62 s62 hy62 ry62 => ?_)
                refine xi_iastore (pc' := 120) (x' := y62) kc_68_119 rfl A17 rfl (xi_in (by omega) (by rw [hy17]; omega)) s62 (fun hh62 eh62 => ?_)
                have K63 := xk_pa K (xk_wa rfl) xD_160 hy62 ry62 eh62
                refine xcps2 (α := Int32) (x4 + 1) (fun v64 ev64 => ?_)
                have zv64 : v64.toInt = (x4.toInt + 1) := by rw [← ev64]; exact (xz_add (X := x4.toInt) (Y := 1) rfl (by decide) (by omega) (by omega)).trans (by omega)
                refine xi_iinc (pc' := 123) (x := x4) (v := v64) (lv' := [(4, .int v64), (0, .ref 115), (1, .int x1), (2, .int x2), (3, .int x3)]) kc_68_120 rfl rfl ev64 rfl (xm_lt ml_68 rfl) ?_
                refine xi_goto (pc' := 77) kc_68_123 rfl ?_
                refine xw_lv (b := [(0, .ref 115), (1, .int x1), (2, .int x2), (3, .int x3), (4, .int v64)]) (lvS_cons (lvS_cons (lvS_cons (lvS_cons (lvS_cons (lvS_nil (show ([4, 0, 1, 2, 3] : List Nat).Nodup by decide)) rfl) rfl) rfl) rfl) rfl) ?_
                exact i1 x1 x2 x3 v64 hh62 (by omega) (by omega) (by omega) K63 (by omega)
              · refine xi_cmt (pc' := 64) kc_67_57 rfl (xc_ne_t (X := (v23.toInt + (-1) * v24.toInt)) (Y := (-1)) zv25 (by decide) (by omega)) ?_
                refine xi_iconst (pc' := 65) (v := 0) kc_67_64 rfl rfl ?_
                refine xi_ireturn kc_67_65 mr_67 rfl ?_
                show xw J ov (d + 2) 68 (107, [(0, .ref 115), (1, .int x1), (2, .int x2), (3, .int x3), (4, .int x4)], [.int 0, .int v18, .int x3, .ref 160], h) _
                refine xi_ift (pc' := 117) kc_68_107 rfl rfl ?_
                refine xi_iconst (pc' := 118) (v := 0) kc_68_117 rfl rfl ?_
                refine xcps2 (α := Int32) ((v18 : Int32) ||| 0) (fun v65 ev65 => ?_)
                have rv65 := xc_rng v65
                refine xi_ior (pc' := 119) (v := v65) kc_68_118 rfl ev65 ?_
                refine xcps4 (xj_set (v := v65) hy17 ry17 x3 (by first | omega | decide) (by first | omega | decide)) (fun y66 s66 hy66 ry66 => ?_)
                refine xi_iastore (pc' := 120) (x' := y66) kc_68_119 rfl A17 rfl (xi_in (by omega) (by rw [hy17]; omega)) s66 (fun hh66 eh66 => ?_)
                have K67 := xk_pa K (xk_wa rfl) xD_160 hy66 ry66 eh66
                refine xcps2 (α := Int32) (x4 + 1) (fun v68 ev68 => ?_)
                have zv68 : v68.toInt = (x4.toInt + 1) := by rw [← ev68]; exact (xz_add (X := x4.toInt) (Y := 1) rfl (by decide) (by omega) (by omega)).trans (by omega)
                refine xi_iinc (pc' := 123) (x := x4) (v := v68) (lv' := [(4, .int v68), (0, .ref 115), (1, .int x1), (2, .int x2), (3, .int x3)]) kc_68_120 rfl rfl ev68 rfl (xm_lt ml_68 rfl) ?_
                refine xi_goto (pc' := 77) kc_68_123 rfl ?_
                refine xw_lv (b := [(0, .ref 115), (1, .int x1), (2, .int x2), (3, .int x3), (4, .int v68)]) (lvS_cons (lvS_cons (lvS_cons (lvS_cons (lvS_cons (lvS_nil (show ([4, 0, 1, 2, 3] : List Nat).Nodup by decide)) rfl) rfl) rfl) rfl) rfl) ?_
                exact i1 x1 x2 x3 v68 hh66 (by omega) (by omega) (by omega) K67 (by omega)
          · refine xi_ift (pc' := 64) kc_67_47 rfl (xc_ne_t (X := (v27.toInt + (-1) * v28.toInt)) (Y := 0) zv29 (by decide) (by omega)) ?_
            refine xi_iconst (pc' := 65) (v := 0) kc_67_64 rfl rfl ?_
            refine xi_ireturn kc_67_65 mr_67 rfl ?_
            show xw J ov (d + 2) 68 (107, [(0, .ref 115), (1, .int x1), (2, .int x2), (3, .int x3), (4, .int x4)], [.int 0, .int v18, .int x3, .ref 160], h) _
            refine xi_ift (pc' := 117) kc_68_107 rfl rfl ?_
            refine xi_iconst (pc' := 118) (v := 0) kc_68_117 rfl rfl ?_
            refine xcps2 (α := Int32) ((v18 : Int32) ||| 0) (fun v69 ev69 => ?_)
            have rv69 := xc_rng v69
            refine xi_ior (pc' := 119) (v := v69) kc_68_118 rfl ev69 ?_
            refine xcps4 (xj_set (v := v69) hy17 ry17 x3 (by first | omega | decide) (by first | omega | decide)) (fun y70 s70 hy70 ry70 => ?_)
            refine xi_iastore (pc' := 120) (x' := y70) kc_68_119 rfl A17 rfl (xi_in (by omega) (by rw [hy17]; omega)) s70 (fun hh70 eh70 => ?_)
            have K71 := xk_pa K (xk_wa rfl) xD_160 hy70 ry70 eh70
            refine xcps2 (α := Int32) (x4 + 1) (fun v72 ev72 => ?_)
            have zv72 : v72.toInt = (x4.toInt + 1) := by rw [← ev72]; exact (xz_add (X := x4.toInt) (Y := 1) rfl (by decide) (by omega) (by omega)).trans (by omega)
            refine xi_iinc (pc' := 123) (x := x4) (v := v72) (lv' := [(4, .int v72), (0, .ref 115), (1, .int x1), (2, .int x2), (3, .int x3)]) kc_68_120 rfl rfl ev72 rfl (xm_lt ml_68 rfl) ?_
            refine xi_goto (pc' := 77) kc_68_123 rfl ?_
            refine xw_lv (b := [(0, .ref 115), (1, .int x1), (2, .int x2), (3, .int x3), (4, .int v72)]) (lvS_cons (lvS_cons (lvS_cons (lvS_cons (lvS_cons (lvS_nil (show ([4, 0, 1, 2, 3] : List Nat).Nodup by decide)) rfl) rfl) rfl) rfl) rfl) ?_
            exact i1 x1 x2 x3 v72 hh70 (by omega) (by omega) (by omega) K71 (by omega)
    · intro x1 x2 x3 x4 x5 x6 h b1 b6 K hm
      have rx2 := xc_rng x2
      have rx3 := xc_rng x3
      have rx4 := xc_rng x4
      have rx5 := xc_rng x5
      refine xi_iload (pc' := 148) (x := x6) kc_68_146 rfl rfl ?_
      refine xi_iconst (pc' := 149) (v := 1) kc_68_148 rfl rfl ?_
      refine xi_aload_n (pc' := 150) (x := 115) kc_68_149 rfl rfl ?_
      refine xp_115 K.1 (fun u1 u2 u3 u4 u5 u6 u7 u8 u9 u10 u11 u12 u13 bu1 bu2 bu3 bu4 bu5 bu6 bu7 bu8 bu9 bu10 bu11 bu12 bu13 A14 => ?_)
      refine xi_getfield (pc' := 153) (v := .int u11) kc_68_150 rfl rfl rfl A14 rfl ?_
      refine xcps2 (α := Int32) ((1 : Int32) <<< (u11 &&& 31)) (fun v15 ev15 => ?_)
      have rv15 := xc_rng v15
      have bv15 : 1 ≤ v15.toInt ∧ v15.toInt ≤ 16777216 := by rw [← ev15]; exact xj_shl24 (by omega) (by omega)
      refine xi_ishl (pc' := 154) (v := v15) kc_68_153 rfl ev15 ?_
      by_cases c16 : v15.toInt ≤ x6.toInt
      · refine xi_cmt (pc' := 245) kc_68_154 rfl (xc_ge_t (X := x6.toInt) (Y := v15.toInt) rfl rfl (by omega)) ?_
        refine xi_iload_n (pc' := 246) (x := x1) kc_68_245 rfl rfl ?_
        by_cases c17 : x1.toInt = 0
        · refine xi_iff (pc' := 249) kc_68_246 rfl (xc_ne_f (X := x1.toInt) (Y := 0) rfl (by decide) (by omega)) ?_
          refine xi_iload (pc' := 251) (x := x4) kc_68_249 rfl rfl ?_
          refine xi_goto (pc' := 256) kc_68_251 rfl ?_
          refine xi_ireturn kc_68_256 mr_68 rfl ?_
          exact kk x4 h K
        · refine xi_ift (pc' := 254) kc_68_246 rfl (xc_ne_t (X := x1.toInt) (Y := 0) rfl (by decide) (by omega)) ?_
          refine xi_iload (pc' := 256) (x := x5) kc_68_254 rfl rfl ?_
          refine xi_ireturn kc_68_256 mr_68 rfl ?_
          exact kk x5 h K
      · refine xi_cmf (pc' := 157) kc_68_154 rfl (xc_ge_f (X := x6.toInt) (Y := v15.toInt) rfl rfl (by omega)) ?_
        refine xi_iload (pc' := 159) (x := x6) kc_68_157 rfl rfl ?_
        refine xi_static (mj := 49) (as := [.int x6]) (st1 := []) (lv0 := [(0, .int x6)]) kc_68_159 rfl rfl (Nat.le_of_ble_eq_true rfl) rfl rfl (Nat.le_of_ble_eq_true rfl) (hJ _ _ _ _ (by decide)) (xm_le ml_49 rfl) rfl ?_
        refine mt_49_0 hJ hov1 hov2 (d := d) (x0 := x6) K.1 (fun r18 hh19 K20 => ?_)
        have br18 := xc_rng r18
        have K21 := xk_tr K K20 rfl
        refine xp_115 K21.1 (fun u22 u23 u24 u25 u26 u27 u28 u29 u30 u31 u32 u33 u34 bu22 bu23 bu24 bu25 bu26 bu27 bu28 bu29 bu30 bu31 bu32 bu33 bu34 A35 => ?_)
        have e36 : u2 = u23 := xk_eqi (q := 1) K20 rfl A14 A35 rfl rfl
        subst e36
        have e37 : u4 = u25 := xk_eqi (q := 18) K20 rfl A14 A35 rfl rfl
        subst e37
        show xw J ov (d + 2) 68 (162, [(0, .ref 115), (1, .int x1), (2, .int x2), (3, .int x3), (4, .int x4), (5, .int x5), (6, .int x6)], [.int r18], hh19) _
        refine xi_iload_n (pc' := 163) (x := x2) kc_68_162 rfl rfl ?_
        by_cases c38 : r18.toInt = x2.toInt
        · refine xi_cmf (pc' := 166) kc_68_163 rfl (xc_ne_f (X := r18.toInt) (Y := x2.toInt) rfl rfl (by omega)) ?_
          refine xi_iconst (pc' := 167) (v := 0) kc_68_166 rfl rfl ?_
          refine xi_istore (pc' := 169) (lv' := [(7, .int 0), (0, .ref 115), (1, .int x1), (2, .int x2), (3, .int x3), (4, .int x4), (5, .int x5), (6, .int x6)]) kc_68_167 rfl rfl (xm_lt ml_68 rfl) ?_
          refine xi_iconst (pc' := 170) (v := 0) kc_68_169 rfl rfl ?_
          refine xi_istore (pc' := 172) (lv' := [(8, .int 0), (7, .int 0), (0, .ref 115), (1, .int x1), (2, .int x2), (3, .int x3), (4, .int x4), (5, .int x5), (6, .int x6)]) kc_68_170 rfl rfl (xm_lt ml_68 rfl) ?_
          have zc0 : (0 : Int32).toInt = 0 := by decide
          refine xw_lv (b := [(0, .ref 115), (1, .int x1), (2, .int x2), (3, .int x3), (4, .int x4), (5, .int x5), (6, .int x6), (7, .int 0), (8, .int 0)]) (lvS_cons (lvS_cons (lvS_cons (lvS_cons (lvS_cons (lvS_cons (lvS_cons (lvS_cons (lvS_cons (lvS_nil (show ([8, 7, 0, 1, 2, 3, 4, 5, 6] : List Nat).Nodup by decide)) rfl) rfl) rfl) rfl) rfl) rfl) rfl) rfl) rfl) ?_
          exact i3 x1 x2 x3 x4 x5 x6 0 0 hh19 (by omega) (by omega) (by omega) K21 (by omega)
        · refine xi_cmt (pc' := 239) kc_68_163 rfl (xc_ne_t (X := r18.toInt) (Y := x2.toInt) rfl rfl (by omega)) ?_
          refine xcps2 (α := Int32) (x6 + 1) (fun v39 ev39 => ?_)
          have zv39 : v39.toInt = (x6.toInt + 1) := by rw [← ev39]; exact (xz_add (X := x6.toInt) (Y := 1) rfl (by decide) (by omega) (by omega)).trans (by omega)
          refine xi_iinc (pc' := 242) (x := x6) (v := v39) (lv' := [(6, .int v39), (0, .ref 115), (1, .int x1), (2, .int x2), (3, .int x3), (4, .int x4), (5, .int x5)]) kc_68_239 rfl rfl ev39 rfl (xm_lt ml_68 rfl) ?_
          refine xi_goto (pc' := 146) kc_68_242 rfl ?_
          refine xw_lv (b := [(0, .ref 115), (1, .int x1), (2, .int x2), (3, .int x3), (4, .int x4), (5, .int x5), (6, .int v39)]) (lvS_cons (lvS_cons (lvS_cons (lvS_cons (lvS_cons (lvS_cons (lvS_cons (lvS_nil (show ([6, 0, 1, 2, 3, 4, 5] : List Nat).Nodup by decide)) rfl) rfl) rfl) rfl) rfl) rfl) rfl) ?_
          exact i2 x1 x2 x3 x4 x5 v39 hh19 (by omega) (by omega) K21 (by omega)
    · intro x1 x2 x3 x4 x5 x6 x7 x8 h b1 b6 b8 K hm
      have rx2 := xc_rng x2
      have rx3 := xc_rng x3
      have rx4 := xc_rng x4
      have rx5 := xc_rng x5
      have rx7 := xc_rng x7
      refine xi_iload (pc' := 174) (x := x8) kc_68_172 rfl rfl ?_
      refine xi_aload_n (pc' := 175) (x := 115) kc_68_174 rfl rfl ?_
      refine xp_115 K.1 (fun u1 u2 u3 u4 u5 u6 u7 u8 u9 u10 u11 u12 u13 bu1 bu2 bu3 bu4 bu5 bu6 bu7 bu8 bu9 bu10 bu11 bu12 bu13 A14 => ?_)
      refine xi_getfield (pc' := 178) (v := .int u11) kc_68_175 rfl rfl rfl A14 rfl ?_
      by_cases c15 : u11.toInt ≤ x8.toInt
      · refine xi_cmt (pc' := 220) kc_68_178 rfl (xc_ge_t (X := x8.toInt) (Y := u11.toInt) rfl rfl (by omega)) ?_
        refine xcps2 (α := Int32) ((x5 : Int32) + 1) (fun v16 ev16 => ?_)
        have rv16 := xc_rng v16
        refine xi_iinc (pc' := 223) (x := x5) (v := v16) (lv' := [(5, .int v16), (0, .ref 115), (1, .int x1), (2, .int x2), (3, .int x3), (4, .int x4), (6, .int x6), (7, .int x7), (8, .int x8)]) kc_68_220 rfl rfl ev16 rfl (xm_lt ml_68 rfl) ?_
        refine xi_iload (pc' := 225) (x := x4) kc_68_223 rfl rfl ?_
        refine xi_iload (pc' := 227) (x := x7) kc_68_225 rfl rfl ?_
        refine xi_iload_n (pc' := 228) (x := x3) kc_68_227 rfl rfl ?_
        by_cases c17 : x7.toInt < x3.toInt
        · refine xi_cmt (pc' := 235) kc_68_228 rfl (xc_lt_t (X := x7.toInt) (Y := x3.toInt) rfl rfl (by omega)) ?_
          refine xi_iconst (pc' := 236) (v := 0) kc_68_235 rfl rfl ?_
          refine xcps2 (α := Int32) (x4 + 0) (fun v18 ev18 => ?_)
          have zv18 : v18.toInt = x4.toInt := by rw [← ev18]; exact (xz_add (X := x4.toInt) (Y := 0) rfl (by decide) (by omega) (by omega)).trans (by omega)
          refine xi_iadd (pc' := 237) (v := v18) kc_68_236 rfl ev18 ?_
          refine xi_istore (pc' := 239) (lv' := [(4, .int v18), (5, .int v16), (0, .ref 115), (1, .int x1), (2, .int x2), (3, .int x3), (6, .int x6), (7, .int x7), (8, .int x8)]) kc_68_237 rfl rfl (xm_lt ml_68 rfl) ?_
          refine xcps2 (α := Int32) (x6 + 1) (fun v19 ev19 => ?_)
          have zv19 : v19.toInt = (x6.toInt + 1) := by rw [← ev19]; exact (xz_add (X := x6.toInt) (Y := 1) rfl (by decide) (by omega) (by omega)).trans (by omega)
          refine xi_iinc (pc' := 242) (x := x6) (v := v19) (lv' := [(6, .int v19), (4, .int v18), (5, .int v16), (0, .ref 115), (1, .int x1), (2, .int x2), (3, .int x3), (7, .int x7), (8, .int x8)]) kc_68_239 rfl rfl ev19 rfl (xm_lt ml_68 rfl) ?_
          refine xi_goto (pc' := 146) kc_68_242 rfl ?_
          refine xw_lv (b := [(0, .ref 115), (1, .int x1), (2, .int x2), (3, .int x3), (4, .int v18), (5, .int v16), (6, .int v19)]) (lvS_cons (lvS_cons (lvS_cons (lvS_cons (lvS_cons (lvS_cons (lvS_cons (lvS_nil (show ([6, 4, 5, 0, 1, 2, 3, 7, 8] : List Nat).Nodup by decide)) rfl) rfl) rfl) rfl) rfl) rfl) rfl) ?_
          exact i2 x1 x2 x3 v18 v16 v19 h (by omega) (by omega) K (by omega)
        · refine xi_cmf (pc' := 231) kc_68_228 rfl (xc_lt_f (X := x7.toInt) (Y := x3.toInt) rfl rfl (by omega)) ?_
          refine xi_iconst (pc' := 232) (v := 1) kc_68_231 rfl rfl ?_
          refine xi_goto (pc' := 236) kc_68_232 rfl ?_
          refine xcps2 (α := Int32) ((x4 : Int32) + 1) (fun v20 ev20 => ?_)
          have rv20 := xc_rng v20
          refine xi_iadd (pc' := 237) (v := v20) kc_68_236 rfl ev20 ?_
          refine xi_istore (pc' := 239) (lv' := [(4, .int v20), (5, .int v16), (0, .ref 115), (1, .int x1), (2, .int x2), (3, .int x3), (6, .int x6), (7, .int x7), (8, .int x8)]) kc_68_237 rfl rfl (xm_lt ml_68 rfl) ?_
          refine xcps2 (α := Int32) (x6 + 1) (fun v21 ev21 => ?_)
          have zv21 : v21.toInt = (x6.toInt + 1) := by rw [← ev21]; exact (xz_add (X := x6.toInt) (Y := 1) rfl (by decide) (by omega) (by omega)).trans (by omega)
          refine xi_iinc (pc' := 242) (x := x6) (v := v21) (lv' := [(6, .int v21), (4, .int v20), (5, .int v16), (0, .ref 115), (1, .int x1), (2, .int x2), (3, .int x3), (7, .int x7), (8, .int x8)]) kc_68_239 rfl rfl ev21 rfl (xm_lt ml_68 rfl) ?_
          refine xi_goto (pc' := 146) kc_68_242 rfl ?_
          refine xw_lv (b := [(0, .ref 115), (1, .int x1), (2, .int x2), (3, .int x3), (4, .int v20), (5, .int v16), (6, .int v21)]) (lvS_cons (lvS_cons (lvS_cons (lvS_cons (lvS_cons (lvS_cons (lvS_cons (lvS_nil (show ([6, 4, 5, 0, 1, 2, 3, 7, 8] : List Nat).Nodup by decide)) rfl) rfl) rfl) rfl) rfl) rfl) rfl) ?_
          exact i2 x1 x2 x3 v20 v16 v21 h (by omega) (by omega) K (by omega)
      · refine xi_cmf (pc' := 181) kc_68_178 rfl (xc_ge_f (X := x8.toInt) (Y := u11.toInt) rfl rfl (by omega)) ?_
        refine xi_iload (pc' := 183) (x := x7) kc_68_181 rfl rfl ?_
        refine xi_iload (pc' := 185) (x := x6) kc_68_183 rfl rfl ?_
        refine xi_iload (pc' := 187) (x := x8) kc_68_185 rfl rfl ?_
        refine xcps2 (α := Int32) ((x6 : Int32) >>> (x8 &&& 31)) (fun v22 ev22 => ?_)
        have rv22 := xc_rng v22
        refine xi_ishr (pc' := 188) (v := v22) kc_68_187 rfl ev22 ?_
        refine xi_iconst (pc' := 189) (v := 1) kc_68_188 rfl rfl ?_
        refine xcps2 (α := Int32) ((v22 : Int32) &&& 1) (fun v23 ev23 => ?_)
        have rv23 := xc_rng v23
        refine xi_iand (pc' := 190) (v := v23) kc_68_189 rfl ev23 ?_
        refine xi_iconst (pc' := 191) (v := 1) kc_68_190 rfl rfl ?_
        by_cases c24 : v23.toInt = 1
        · refine xi_cmf (pc' := 194) kc_68_191 rfl (xc_ne_f (X := v23.toInt) (Y := 1) rfl (by decide) (by omega)) ?_
          refine xi_aload_n (pc' := 195) (x := 115) kc_68_194 rfl rfl ?_
          refine xi_getfield (pc' := 198) (v := .ref 160) kc_68_195 rfl rfl rfl A14 rfl ?_
          refine xi_iload (pc' := 200) (x := x8) kc_68_198 rfl rfl ?_
          refine xcps4 (xk_arr K.1 xD_160) (fun y25 A25 hy25 ry25 => ?_)
          refine xcps4 (xj_get hy25 ry25 (i := x8) (by omega) (by omega)) (fun v26 ev26 bv26 dv26 => ?_)
          refine xi_iaload (pc' := 201) (v := v26) kc_68_200 rfl A25 (by decide) rfl (xi_in (by omega) (by rw [hy25]; omega)) ev26 ?_
          refine xi_iload (pc' := 203) (x := x6) kc_68_201 rfl rfl ?_
          refine xcps2 (α := Int32) ((v26 : Int32) &&& x6) (fun v27 ev27 => ?_)
          have rv27 := xc_rng v27
          refine xi_iand (pc' := 204) (v := v27) kc_68_203 rfl ev27 ?_
          refine xi_static (mj := 49) (as := [.int v27]) (st1 := [.int x7]) (lv0 := [(0, .int v27)]) kc_68_204 rfl rfl (Nat.le_of_ble_eq_true rfl) rfl rfl (Nat.le_of_ble_eq_true rfl) (hJ _ _ _ _ (by decide)) (xm_le ml_49 rfl) rfl ?_
          refine mt_49_0 hJ hov1 hov2 (d := d) (x0 := v27) K.1 (fun r28 hh29 K30 => ?_)
          have br28 := xc_rng r28
          have K31 := xk_tr K K30 rfl
          refine xp_115 K31.1 (fun u32 u33 u34 u35 u36 u37 u38 u39 u40 u41 u42 u43 u44 bu32 bu33 bu34 bu35 bu36 bu37 bu38 bu39 bu40 bu41 bu42 bu43 bu44 A45 => ?_)
          have e46 : u2 = u33 := xk_eqi (q := 1) K30 rfl A14 A45 rfl rfl
          subst e46
          have e47 : u4 = u35 := xk_eqi (q := 18) K30 rfl A14 A45 rfl rfl
          subst e47
          show xw J ov (d + 2) 68 (207, [(0, .ref 115), (1, .int x1), (2, .int x2), (3, .int x3), (4, .int x4), (5, .int x5), (6, .int x6), (7, .int x7), (8, .int x8)], [.int r28, .int x7], hh29) _
          refine xi_goto (pc' := 211) kc_68_207 rfl ?_
          refine xcps2 (α := Int32) ((x7 : Int32) + r28) (fun v48 ev48 => ?_)
          have rv48 := xc_rng v48
          refine xi_iadd (pc' := 212) (v := v48) kc_68_211 rfl ev48 ?_
          refine xi_istore (pc' := 214) (lv' := [(7, .int v48), (0, .ref 115), (1, .int x1), (2, .int x2), (3, .int x3), (4, .int x4), (5, .int x5), (6, .int x6), (8, .int x8)]) kc_68_212 rfl rfl (xm_lt ml_68 rfl) ?_
          refine xcps2 (α := Int32) (x8 + 1) (fun v49 ev49 => ?_)
          have zv49 : v49.toInt = (x8.toInt + 1) := by rw [← ev49]; exact (xz_add (X := x8.toInt) (Y := 1) rfl (by decide) (by omega) (by omega)).trans (by omega)
          refine xi_iinc (pc' := 217) (x := x8) (v := v49) (lv' := [(8, .int v49), (7, .int v48), (0, .ref 115), (1, .int x1), (2, .int x2), (3, .int x3), (4, .int x4), (5, .int x5), (6, .int x6)]) kc_68_214 rfl rfl ev49 rfl (xm_lt ml_68 rfl) ?_
          refine xi_goto (pc' := 172) kc_68_217 rfl ?_
          refine xw_lv (b := [(0, .ref 115), (1, .int x1), (2, .int x2), (3, .int x3), (4, .int x4), (5, .int x5), (6, .int x6), (7, .int v48), (8, .int v49)]) (lvS_cons (lvS_cons (lvS_cons (lvS_cons (lvS_cons (lvS_cons (lvS_cons (lvS_cons (lvS_cons (lvS_nil (show ([8, 7, 0, 1, 2, 3, 4, 5, 6] : List Nat).Nodup by decide)) rfl) rfl) rfl) rfl) rfl) rfl) rfl) rfl) rfl) ?_
          exact i3 x1 x2 x3 x4 x5 x6 v48 v49 hh29 (by omega) (by omega) (by omega) K31 (by omega)
        · refine xi_cmt (pc' := 210) kc_68_191 rfl (xc_ne_t (X := v23.toInt) (Y := 1) rfl (by decide) (by omega)) ?_
          refine xi_iconst (pc' := 211) (v := 0) kc_68_210 rfl rfl ?_
          refine xcps2 (α := Int32) (x7 + 0) (fun v50 ev50 => ?_)
          have zv50 : v50.toInt = x7.toInt := by rw [← ev50]; exact (xz_add (X := x7.toInt) (Y := 0) rfl (by decide) (by omega) (by omega)).trans (by omega)
          refine xi_iadd (pc' := 212) (v := v50) kc_68_211 rfl ev50 ?_
          refine xi_istore (pc' := 214) (lv' := [(7, .int v50), (0, .ref 115), (1, .int x1), (2, .int x2), (3, .int x3), (4, .int x4), (5, .int x5), (6, .int x6), (8, .int x8)]) kc_68_212 rfl rfl (xm_lt ml_68 rfl) ?_
          refine xcps2 (α := Int32) (x8 + 1) (fun v51 ev51 => ?_)
          have zv51 : v51.toInt = (x8.toInt + 1) := by rw [← ev51]; exact (xz_add (X := x8.toInt) (Y := 1) rfl (by decide) (by omega) (by omega)).trans (by omega)
          refine xi_iinc (pc' := 217) (x := x8) (v := v51) (lv' := [(8, .int v51), (7, .int v50), (0, .ref 115), (1, .int x1), (2, .int x2), (3, .int x3), (4, .int x4), (5, .int x5), (6, .int x6)]) kc_68_214 rfl rfl ev51 rfl (xm_lt ml_68 rfl) ?_
          refine xi_goto (pc' := 172) kc_68_217 rfl ?_
          refine xw_lv (b := [(0, .ref 115), (1, .int x1), (2, .int x2), (3, .int x3), (4, .int x4), (5, .int x5), (6, .int x6), (7, .int v50), (8, .int v51)]) (lvS_cons (lvS_cons (lvS_cons (lvS_cons (lvS_cons (lvS_cons (lvS_cons (lvS_cons (lvS_cons (lvS_nil (show ([8, 7, 0, 1, 2, 3, 4, 5, 6] : List Nat).Nodup by decide)) rfl) rfl) rfl) rfl) rfl) rfl) rfl) rfl) rfl) ?_
          exact i3 x1 x2 x3 x4 x5 x6 v50 v51 h (by omega) (by omega) (by omega) K (by omega)
set_option maxHeartbeats 4000000 in
theorem mt_68_0 {J : xe_J} {ov : List (List Int32)} (hJ : ∀ d mj as h, mj ≠ xe_loff → J d mj as h = none) (hov1 : ov[1]? = some [10, 0, 0, 0, 0, 0]) (hov2 : ov[2]? = some [99, 30, 50, 50, 1, 99999]) {d : Nat} {Q : Option Value → xe_H → Prop} {h : xe_H} {x1 : Int32} (T : xt h) (kk : (∀ (r : Int32) (h' : xe_H), xk [(0, 9), (115, 1), (83, 0), (29, 0), (31, 0), (33, 0), (35, 0), (37, 0), (39, 0), (41, 0), (43, 0), (45, 0), (47, 0), (49, 0), (51, 0), (125, 0), (66, 8), (115, 18), (71, 0), (132, 0)] h h' → Q (some (.int r)) h')) : xw J ov (d + 2) 68 (0, [(0, .ref 115), (1, .int x1)], [], h) Q := by
  have K : xk [(0, 9), (115, 1), (83, 0), (29, 0), (31, 0), (33, 0), (35, 0), (37, 0), (39, 0), (41, 0), (43, 0), (45, 0), (47, 0), (49, 0), (51, 0), (125, 0), (66, 8), (115, 18), (71, 0), (132, 0)] h h := xk_re T
  have rx1 := xc_rng x1
  refine xi_aload_n (pc' := 1) (x := 115) kc_68_0 rfl rfl ?_
  refine xi_iconst (pc' := 2) (v := 0) kc_68_1 rfl rfl ?_
  refine xp_115 K.1 (fun u1 u2 u3 u4 u5 u6 u7 u8 u9 u10 u11 u12 u13 bu1 bu2 bu3 bu4 bu5 bu6 bu7 bu8 bu9 bu10 bu11 bu12 bu13 A14 => ?_)
  refine xi_putfield (pc' := 5) (fs' := [.int 0, .int u2, .ref 116, .ref 117, .ref 118, .ref 119, .ref 120, .ref 121, .ref 122, .ref 123, .ref 124, .ref 125, .ref 126, .ref 127, .ref 128, .ref 129, .int u3, .ref 130, .int u4, .ref 131, .ref 132, .ref 133, .ref 134, .int u5, .ref 135, .ref 136, .ref 137, .ref 138, .ref 139, .ref 140, .ref 141, .ref 142, .int u6, .int u7, .int u8, .ref 143, .ref 144, .ref 145, .ref 146, .ref 147, .ref 148, .int u9, .ref 149, .ref 150, .ref 151, .int u10, .ref 152, .ref 153, .ref 154, .ref 155, .ref 156, .ref 157, .ref 158, .ref 159, .int u11, .ref 160, .int u12, .ref 161, .ref 162, .ref 163, .ref 164, .int u13, .ref 165, .ref 166]) kc_68_2 rfl rfl rfl A14 rfl rfl rfl (Nat.le_of_ble_eq_true rfl) rfl (fun hh16 eh15 => ?_)
  have K17 := xk_pf (k := 0) (v := 0) K (xk_wf rfl) xD_115 A14 rfl (by first | omega | decide) (by first | omega | decide) eh15 rfl
  refine xi_iload_n (pc' := 6) (x := x1) kc_68_5 rfl rfl ?_
  refine xi_iconst (pc' := 7) (v := 0) kc_68_6 rfl rfl ?_
  refine xi_iconst (pc' := 8) (v := 1) kc_68_7 rfl rfl ?_
  refine xi_static (mj := 11) (as := [.int x1, .int 0, .int 1]) (st1 := []) (lv0 := [(0, .int x1), (1, .int 0), (2, .int 1)]) kc_68_8 rfl rfl (Nat.le_of_ble_eq_true rfl) rfl rfl (Nat.le_of_ble_eq_true rfl) (hJ _ _ _ _ (by decide)) (xm_le ml_11 rfl) rfl ?_
  refine xi_iload_n (pc' := 1) (x := x1) kc_11_0 rfl rfl ?_
  refine xi_iload_n (pc' := 2) (x := 0) kc_11_1 rfl rfl ?_
  by_cases c18 : x1.toInt < 0
  · refine xi_cmt (pc' := 14) kc_11_2 rfl (xc_lt_t (X := x1.toInt) (Y := 0) rfl (by decide) (by omega)) ?_
    refine xi_iconst (pc' := 15) (v := 0) kc_11_14 rfl rfl ?_
    refine xi_ireturn kc_11_15 mr_11 rfl ?_
    show xw J ov (d + 2) 68 (11, [(0, .ref 115), (1, .int x1)], [.int 0], hh16) _
    refine xi_iff (pc' := 14) kc_68_11 rfl rfl ?_
    refine xi_aload_n (pc' := 15) (x := 115) kc_68_14 rfl rfl ?_
    refine xi_bipush (pc' := 17) (v := (-2)) kc_68_15 rfl rfl ?_
    refine xi_virtual (mj := 12) (as := [.int (-2)]) (st1 := []) (lv0 := [(0, .ref 115), (1, .int (-2))]) kc_68_17 rfl rfl rfl rfl rfl eh15.1 (Nat.le_of_ble_eq_true rfl) (hJ _ _ _ _ (by decide)) (xm_le ml_12 rfl) rfl ?_
    refine xi_aload_n (pc' := 1) (x := 115) kc_12_0 rfl rfl ?_
    refine xi_getfield (pc' := 4) (v := .ref 140) kc_12_1 rfl rfl rfl eh15.1 rfl ?_
    refine xi_iload_n (pc' := 5) (x := (-2)) kc_12_4 rfl rfl ?_
    refine xi_ineg (pc' := 6) (v := 2) kc_12_5 rfl rfl ?_
    refine xi_dup2 (pc' := 7) kc_12_6 rfl ⟨rfl, rfl⟩ ?_
    refine xcps4 (xk_arr K17.1 xD_140) (fun y19 A19 hy19 ry19 => ?_)
    refine xcps4 (xj_get hy19 ry19 (i := 2) (by decide) (by decide)) (fun v20 ev20 bv20 dv20 => ?_)
    refine xi_iaload (pc' := 8) (v := v20) kc_12_7 rfl A19 (by decide) rfl (xi_in (by decide) (by rw [hy19]; decide)) ev20 ?_
    refine xi_iconst (pc' := 9) (v := 1) kc_12_8 rfl rfl ?_
    refine xcps2 (α := Int32) ((v20 : Int32) + 1) (fun v21 ev21 => ?_)
    have rv21 := xc_rng v21
    refine xi_iadd (pc' := 10) (v := v21) kc_12_9 rfl ev21 ?_
    refine xcps4 (xj_set (v := v21) hy19 ry19 2 (by first | omega | decide) (by first | omega | decide)) (fun y22 s22 hy22 ry22 => ?_)
    refine xi_iastore (pc' := 11) (x' := y22) kc_12_10 rfl A19 rfl (xi_in (by decide) (by rw [hy19]; decide)) s22 (fun hh22 eh22 => ?_)
    have K23 := xk_pa K17 (xk_wa rfl) xD_140 hy22 ry22 eh22
    refine xi_iload_n (pc' := 12) (x := (-2)) kc_12_11 rfl rfl ?_
    refine xi_ireturn kc_12_12 mr_12 rfl ?_
    show xw J ov (d + 2) 68 (20, [(0, .ref 115), (1, .int x1)], [.int (-2)], hh22) _
    refine xi_ireturn kc_68_20 mr_68 rfl ?_
    have zcm2 : ((-2) : Int32).toInt = (-2) := by decide
    exact kk (-2) hh22 K23
  · refine xi_cmf (pc' := 5) kc_11_2 rfl (xc_lt_f (X := x1.toInt) (Y := 0) rfl (by decide) (by omega)) ?_
    refine xi_iload_n (pc' := 6) (x := x1) kc_11_5 rfl rfl ?_
    refine xi_iload_n (pc' := 7) (x := 1) kc_11_6 rfl rfl ?_
    by_cases c24 : 1 < x1.toInt
    · refine xi_cmt (pc' := 14) kc_11_7 rfl (xc_gt_t (X := x1.toInt) (Y := 1) rfl (by decide) (by omega)) ?_
      refine xi_iconst (pc' := 15) (v := 0) kc_11_14 rfl rfl ?_
      refine xi_ireturn kc_11_15 mr_11 rfl ?_
      show xw J ov (d + 2) 68 (11, [(0, .ref 115), (1, .int x1)], [.int 0], hh16) _
      refine xi_iff (pc' := 14) kc_68_11 rfl rfl ?_
      refine xi_aload_n (pc' := 15) (x := 115) kc_68_14 rfl rfl ?_
      refine xi_bipush (pc' := 17) (v := (-2)) kc_68_15 rfl rfl ?_
      refine xi_virtual (mj := 12) (as := [.int (-2)]) (st1 := []) (lv0 := [(0, .ref 115), (1, .int (-2))]) kc_68_17 rfl rfl rfl rfl rfl eh15.1 (Nat.le_of_ble_eq_true rfl) (hJ _ _ _ _ (by decide)) (xm_le ml_12 rfl) rfl ?_
      refine xi_aload_n (pc' := 1) (x := 115) kc_12_0 rfl rfl ?_
      refine xi_getfield (pc' := 4) (v := .ref 140) kc_12_1 rfl rfl rfl eh15.1 rfl ?_
      refine xi_iload_n (pc' := 5) (x := (-2)) kc_12_4 rfl rfl ?_
      refine xi_ineg (pc' := 6) (v := 2) kc_12_5 rfl rfl ?_
      refine xi_dup2 (pc' := 7) kc_12_6 rfl ⟨rfl, rfl⟩ ?_
      refine xcps4 (xk_arr K17.1 xD_140) (fun y25 A25 hy25 ry25 => ?_)
      refine xcps4 (xj_get hy25 ry25 (i := 2) (by decide) (by decide)) (fun v26 ev26 bv26 dv26 => ?_)
      refine xi_iaload (pc' := 8) (v := v26) kc_12_7 rfl A25 (by decide) rfl (xi_in (by decide) (by rw [hy25]; decide)) ev26 ?_
      refine xi_iconst (pc' := 9) (v := 1) kc_12_8 rfl rfl ?_
      refine xcps2 (α := Int32) ((v26 : Int32) + 1) (fun v27 ev27 => ?_)
      have rv27 := xc_rng v27
      refine xi_iadd (pc' := 10) (v := v27) kc_12_9 rfl ev27 ?_
      refine xcps4 (xj_set (v := v27) hy25 ry25 2 (by first | omega | decide) (by first | omega | decide)) (fun y28 s28 hy28 ry28 => ?_)
      refine xi_iastore (pc' := 11) (x' := y28) kc_12_10 rfl A25 rfl (xi_in (by decide) (by rw [hy25]; decide)) s28 (fun hh28 eh28 => ?_)
      have K29 := xk_pa K17 (xk_wa rfl) xD_140 hy28 ry28 eh28
      refine xi_iload_n (pc' := 12) (x := (-2)) kc_12_11 rfl rfl ?_
      refine xi_ireturn kc_12_12 mr_12 rfl ?_
      show xw J ov (d + 2) 68 (20, [(0, .ref 115), (1, .int x1)], [.int (-2)], hh28) _
      refine xi_ireturn kc_68_20 mr_68 rfl ?_
      have zcm2 : ((-2) : Int32).toInt = (-2) := by decide
      exact kk (-2) hh28 K29
    · refine xi_cmf (pc' := 10) kc_11_7 rfl (xc_gt_f (X := x1.toInt) (Y := 1) rfl (by decide) (by omega)) ?_
      refine xi_iconst (pc' := 11) (v := 1) kc_11_10 rfl rfl ?_
      refine xi_goto (pc' := 15) kc_11_11 rfl ?_
      refine xi_ireturn kc_11_15 mr_11 rfl ?_
      show xw J ov (d + 2) 68 (11, [(0, .ref 115), (1, .int x1)], [.int 1], hh16) _
      refine xi_ift (pc' := 21) kc_68_11 rfl rfl ?_
      refine xi_aload_n (pc' := 22) (x := 115) kc_68_21 rfl rfl ?_
      refine xi_virtual (mj := 69) (as := []) (st1 := []) (lv0 := [(0, .ref 115)]) kc_68_22 rfl rfl rfl rfl rfl eh15.1 (Nat.le_of_ble_eq_true rfl) (hJ _ _ _ _ (by decide)) (xm_le ml_69 rfl) rfl ?_
      refine mt_69_0 hJ hov1 hov2 (d := d)  K17.1 (fun hh31 K32 => ?_)
      have K33 := xk_tr K17 K32 rfl
      refine xp_115 K33.1 (fun u34 u35 u36 u37 u38 u39 u40 u41 u42 u43 u44 u45 u46 bu34 bu35 bu36 bu37 bu38 bu39 bu40 bu41 bu42 bu43 bu44 bu45 bu46 A47 => ?_)
      have e48 : u2 = u35 := xk_eqi (q := 1) K32 rfl eh15.1 A47 rfl rfl
      subst e48
      have e49 : u4 = u37 := xk_eqi (q := 18) K32 rfl eh15.1 A47 rfl rfl
      subst e49
      show xw J ov (d + 2) 68 (25, [(0, .ref 115), (1, .int x1)], [], hh31) _
      refine xi_aload_n (pc' := 26) (x := 115) kc_68_25 rfl rfl ?_
      refine xi_getfield (pc' := 29) (v := .int u44) kc_68_26 rfl rfl rfl A47 rfl ?_
      refine xi_bipush (pc' := 31) (v := 16) kc_68_29 rfl rfl ?_
      by_cases c50 : u44.toInt ≤ 16
      · refine xi_cmt (pc' := 41) kc_68_31 rfl (xc_le_t (X := u44.toInt) (Y := 16) rfl (by decide) (by omega)) ?_
        refine xi_iconst (pc' := 42) (v := 0) kc_68_41 rfl rfl ?_
        refine xi_istore_n (pc' := 43) (lv' := [(2, .int 0), (0, .ref 115), (1, .int x1)]) kc_68_42 rfl rfl (xm_lt ml_68 rfl) ?_
        refine xi_iconst (pc' := 44) (v := 0) kc_68_43 rfl rfl ?_
        refine xi_istore_n (pc' := 45) (lv' := [(3, .int 0), (2, .int 0), (0, .ref 115), (1, .int x1)]) kc_68_44 rfl rfl (xm_lt ml_68 rfl) ?_
        have zc0 : (0 : Int32).toInt = 0 := by decide
        refine xw_lv (b := [(0, .ref 115), (1, .int x1), (2, .int 0), (3, .int 0)]) (lvS_cons (lvS_cons (lvS_cons (lvS_cons (lvS_nil (show ([3, 2, 0, 1] : List Nat).Nodup by decide)) rfl) rfl) rfl) rfl) ?_
        exact (lp_68_0 hJ hov1 hov2 (d := d) (hb := hh31) (fun r9 h9 K9 => kk r9 h9 (xk_tr K33 K9 rfl)) 436208267).1 x1 0 0 hh31 (by omega) (by omega) (xk_re K33.1) (by omega)
      · refine xi_cmf (pc' := 34) kc_68_31 rfl (xc_le_f (X := u44.toInt) (Y := 16) rfl (by decide) (by omega)) ?_
        refine xi_aload_n (pc' := 35) (x := 115) kc_68_34 rfl rfl ?_
        refine xi_bipush (pc' := 37) (v := (-6)) kc_68_35 rfl rfl ?_
        refine xi_virtual (mj := 12) (as := [.int (-6)]) (st1 := []) (lv0 := [(0, .ref 115), (1, .int (-6))]) kc_68_37 rfl rfl rfl rfl rfl A47 (Nat.le_of_ble_eq_true rfl) (hJ _ _ _ _ (by decide)) (xm_le ml_12 rfl) rfl ?_
        refine xi_aload_n (pc' := 1) (x := 115) kc_12_0 rfl rfl ?_
        refine xi_getfield (pc' := 4) (v := .ref 140) kc_12_1 rfl rfl rfl A47 rfl ?_
        refine xi_iload_n (pc' := 5) (x := (-6)) kc_12_4 rfl rfl ?_
        refine xi_ineg (pc' := 6) (v := 6) kc_12_5 rfl rfl ?_
        refine xi_dup2 (pc' := 7) kc_12_6 rfl ⟨rfl, rfl⟩ ?_
        refine xcps4 (xk_arr K33.1 xD_140) (fun y51 A51 hy51 ry51 => ?_)
        refine xcps4 (xj_get hy51 ry51 (i := 6) (by decide) (by decide)) (fun v52 ev52 bv52 dv52 => ?_)
        refine xi_iaload (pc' := 8) (v := v52) kc_12_7 rfl A51 (by decide) rfl (xi_in (by decide) (by rw [hy51]; decide)) ev52 ?_
        refine xi_iconst (pc' := 9) (v := 1) kc_12_8 rfl rfl ?_
        refine xcps2 (α := Int32) ((v52 : Int32) + 1) (fun v53 ev53 => ?_)
        have rv53 := xc_rng v53
        refine xi_iadd (pc' := 10) (v := v53) kc_12_9 rfl ev53 ?_
        refine xcps4 (xj_set (v := v53) hy51 ry51 6 (by first | omega | decide) (by first | omega | decide)) (fun y54 s54 hy54 ry54 => ?_)
        refine xi_iastore (pc' := 11) (x' := y54) kc_12_10 rfl A51 rfl (xi_in (by decide) (by rw [hy51]; decide)) s54 (fun hh54 eh54 => ?_)
        have K55 := xk_pa K33 (xk_wa rfl) xD_140 hy54 ry54 eh54
        refine xi_iload_n (pc' := 12) (x := (-6)) kc_12_11 rfl rfl ?_
        refine xi_ireturn kc_12_12 mr_12 rfl ?_
        show xw J ov (d + 2) 68 (40, [(0, .ref 115), (1, .int x1)], [.int (-6)], hh54) _
        refine xi_ireturn kc_68_40 mr_68 rfl ?_
        have zcm6 : ((-6) : Int32).toInt = (-6) := by decide
        exact kk (-6) hh54 K55
set_option maxHeartbeats 4000000 in
theorem mt_70_0 {J : xe_J} {ov : List (List Int32)} (hJ : ∀ d mj as h, mj ≠ xe_loff → J d mj as h = none) (hov1 : ov[1]? = some [10, 0, 0, 0, 0, 0]) (hov2 : ov[2]? = some [99, 30, 50, 50, 1, 99999]) {d : Nat} {Q : Option Value → xe_H → Prop} {h : xe_H} {x1 : Int32} {x2 : Int32} {x3 : Int32} {x4 : Int32} (T : xt h) (kk : (∀ (r : Int32) (h' : xe_H), ((-6) ≤ r.toInt ∧ r.toInt ≤ 11) → xk [(0, 9), (115, 1), (83, 0), (29, 0), (31, 0), (33, 0), (35, 0), (37, 0), (39, 0), (41, 0), (43, 0), (45, 0), (47, 0), (49, 0), (51, 0), (125, 0), (66, 8), (115, 18), (71, 0), (132, 0)] h h' → Q (some (.int r)) h')) : xw J ov (d + 1) 70 (0, [(0, .ref 115), (1, .int x1), (2, .int x2), (3, .int x3), (4, .int x4)], [], h) Q := by
  have K : xk [(0, 9), (115, 1), (83, 0), (29, 0), (31, 0), (33, 0), (35, 0), (37, 0), (39, 0), (41, 0), (43, 0), (45, 0), (47, 0), (49, 0), (51, 0), (125, 0), (66, 8), (115, 18), (71, 0), (132, 0)] h h := xk_re T
  have rx1 := xc_rng x1
  have rx2 := xc_rng x2
  have rx3 := xc_rng x3
  have rx4 := xc_rng x4
  refine xi_aload_n (pc' := 1) (x := 115) kc_70_0 rfl rfl ?_
  refine xi_iconst (pc' := 2) (v := 0) kc_70_1 rfl rfl ?_
  refine xp_115 K.1 (fun u1 u2 u3 u4 u5 u6 u7 u8 u9 u10 u11 u12 u13 bu1 bu2 bu3 bu4 bu5 bu6 bu7 bu8 bu9 bu10 bu11 bu12 bu13 A14 => ?_)
  refine xi_putfield (pc' := 5) (fs' := [.int 0, .int u2, .ref 116, .ref 117, .ref 118, .ref 119, .ref 120, .ref 121, .ref 122, .ref 123, .ref 124, .ref 125, .ref 126, .ref 127, .ref 128, .ref 129, .int u3, .ref 130, .int u4, .ref 131, .ref 132, .ref 133, .ref 134, .int u5, .ref 135, .ref 136, .ref 137, .ref 138, .ref 139, .ref 140, .ref 141, .ref 142, .int u6, .int u7, .int u8, .ref 143, .ref 144, .ref 145, .ref 146, .ref 147, .ref 148, .int u9, .ref 149, .ref 150, .ref 151, .int u10, .ref 152, .ref 153, .ref 154, .ref 155, .ref 156, .ref 157, .ref 158, .ref 159, .int u11, .ref 160, .int u12, .ref 161, .ref 162, .ref 163, .ref 164, .int u13, .ref 165, .ref 166]) kc_70_2 rfl rfl rfl A14 rfl rfl rfl (Nat.le_of_ble_eq_true rfl) rfl (fun hh16 eh15 => ?_)
  have K17 := xk_pf (k := 0) (v := 0) K (xk_wf rfl) xD_115 A14 rfl (by first | omega | decide) (by first | omega | decide) eh15 rfl
  refine xi_iload_n (pc' := 6) (x := x2) kc_70_5 rfl rfl ?_
  refine xi_iconst (pc' := 7) (v := 0) kc_70_6 rfl rfl ?_
  refine xi_iconst (pc' := 8) (v := 3) kc_70_7 rfl rfl ?_
  refine xi_static (mj := 11) (as := [.int x2, .int 0, .int 3]) (st1 := []) (lv0 := [(0, .int x2), (1, .int 0), (2, .int 3)]) kc_70_8 rfl rfl (Nat.le_of_ble_eq_true rfl) rfl rfl (Nat.le_of_ble_eq_true rfl) (hJ _ _ _ _ (by decide)) (xm_le ml_11 rfl) rfl ?_
  refine xi_iload_n (pc' := 1) (x := x2) kc_11_0 rfl rfl ?_
  refine xi_iload_n (pc' := 2) (x := 0) kc_11_1 rfl rfl ?_
  by_cases c18 : x2.toInt < 0
  · refine xi_cmt (pc' := 14) kc_11_2 rfl (xc_lt_t (X := x2.toInt) (Y := 0) rfl (by decide) (by omega)) ?_
    refine xi_iconst (pc' := 15) (v := 0) kc_11_14 rfl rfl ?_
    refine xi_ireturn kc_11_15 mr_11 rfl ?_
    show xw J ov (d + 1) 70 (11, [(0, .ref 115), (1, .int x1), (2, .int x2), (3, .int x3), (4, .int x4)], [.int 0], hh16) _
    refine xi_ift (pc' := 23) kc_70_11 rfl rfl ?_
    refine xi_aload_n (pc' := 24) (x := 115) kc_70_23 rfl rfl ?_
    refine xi_bipush (pc' := 26) (v := (-2)) kc_70_24 rfl rfl ?_
    refine xi_virtual (mj := 12) (as := [.int (-2)]) (st1 := []) (lv0 := [(0, .ref 115), (1, .int (-2))]) kc_70_26 rfl rfl rfl rfl rfl eh15.1 (Nat.le_of_ble_eq_true rfl) (hJ _ _ _ _ (by decide)) (xm_le ml_12 rfl) rfl ?_
    refine xi_aload_n (pc' := 1) (x := 115) kc_12_0 rfl rfl ?_
    refine xi_getfield (pc' := 4) (v := .ref 140) kc_12_1 rfl rfl rfl eh15.1 rfl ?_
    refine xi_iload_n (pc' := 5) (x := (-2)) kc_12_4 rfl rfl ?_
    refine xi_ineg (pc' := 6) (v := 2) kc_12_5 rfl rfl ?_
    refine xi_dup2 (pc' := 7) kc_12_6 rfl ⟨rfl, rfl⟩ ?_
    refine xcps4 (xk_arr K17.1 xD_140) (fun y19 A19 hy19 ry19 => ?_)
    refine xcps4 (xj_get hy19 ry19 (i := 2) (by decide) (by decide)) (fun v20 ev20 bv20 dv20 => ?_)
    refine xi_iaload (pc' := 8) (v := v20) kc_12_7 rfl A19 (by decide) rfl (xi_in (by decide) (by rw [hy19]; decide)) ev20 ?_
    refine xi_iconst (pc' := 9) (v := 1) kc_12_8 rfl rfl ?_
    refine xcps2 (α := Int32) ((v20 : Int32) + 1) (fun v21 ev21 => ?_)
    have rv21 := xc_rng v21
    refine xi_iadd (pc' := 10) (v := v21) kc_12_9 rfl ev21 ?_
    refine xcps4 (xj_set (v := v21) hy19 ry19 2 (by first | omega | decide) (by first | omega | decide)) (fun y22 s22 hy22 ry22 => ?_)
    refine xi_iastore (pc' := 11) (x' := y22) kc_12_10 rfl A19 rfl (xi_in (by decide) (by rw [hy19]; decide)) s22 (fun hh22 eh22 => ?_)
    have K23 := xk_pa K17 (xk_wa rfl) xD_140 hy22 ry22 eh22
    refine xi_iload_n (pc' := 12) (x := (-2)) kc_12_11 rfl rfl ?_
    refine xi_ireturn kc_12_12 mr_12 rfl ?_
    show xw J ov (d + 1) 70 (29, [(0, .ref 115), (1, .int x1), (2, .int x2), (3, .int x3), (4, .int x4)], [.int (-2)], hh22) _
    refine xi_ireturn kc_70_29 mr_70 rfl ?_
    have zcm2 : ((-2) : Int32).toInt = (-2) := by decide
    exact kk (-2) hh22 (by omega) K23
  · refine xi_cmf (pc' := 5) kc_11_2 rfl (xc_lt_f (X := x2.toInt) (Y := 0) rfl (by decide) (by omega)) ?_
    refine xi_iload_n (pc' := 6) (x := x2) kc_11_5 rfl rfl ?_
    refine xi_iload_n (pc' := 7) (x := 3) kc_11_6 rfl rfl ?_
    by_cases c24 : 3 < x2.toInt
    · refine xi_cmt (pc' := 14) kc_11_7 rfl (xc_gt_t (X := x2.toInt) (Y := 3) rfl (by decide) (by omega)) ?_
      refine xi_iconst (pc' := 15) (v := 0) kc_11_14 rfl rfl ?_
      refine xi_ireturn kc_11_15 mr_11 rfl ?_
      show xw J ov (d + 1) 70 (11, [(0, .ref 115), (1, .int x1), (2, .int x2), (3, .int x3), (4, .int x4)], [.int 0], hh16) _
      refine xi_ift (pc' := 23) kc_70_11 rfl rfl ?_
      refine xi_aload_n (pc' := 24) (x := 115) kc_70_23 rfl rfl ?_
      refine xi_bipush (pc' := 26) (v := (-2)) kc_70_24 rfl rfl ?_
      refine xi_virtual (mj := 12) (as := [.int (-2)]) (st1 := []) (lv0 := [(0, .ref 115), (1, .int (-2))]) kc_70_26 rfl rfl rfl rfl rfl eh15.1 (Nat.le_of_ble_eq_true rfl) (hJ _ _ _ _ (by decide)) (xm_le ml_12 rfl) rfl ?_
      refine xi_aload_n (pc' := 1) (x := 115) kc_12_0 rfl rfl ?_
      refine xi_getfield (pc' := 4) (v := .ref 140) kc_12_1 rfl rfl rfl eh15.1 rfl ?_
      refine xi_iload_n (pc' := 5) (x := (-2)) kc_12_4 rfl rfl ?_
      refine xi_ineg (pc' := 6) (v := 2) kc_12_5 rfl rfl ?_
      refine xi_dup2 (pc' := 7) kc_12_6 rfl ⟨rfl, rfl⟩ ?_
      refine xcps4 (xk_arr K17.1 xD_140) (fun y25 A25 hy25 ry25 => ?_)
      refine xcps4 (xj_get hy25 ry25 (i := 2) (by decide) (by decide)) (fun v26 ev26 bv26 dv26 => ?_)
      refine xi_iaload (pc' := 8) (v := v26) kc_12_7 rfl A25 (by decide) rfl (xi_in (by decide) (by rw [hy25]; decide)) ev26 ?_
      refine xi_iconst (pc' := 9) (v := 1) kc_12_8 rfl rfl ?_
      refine xcps2 (α := Int32) ((v26 : Int32) + 1) (fun v27 ev27 => ?_)
      have rv27 := xc_rng v27
      refine xi_iadd (pc' := 10) (v := v27) kc_12_9 rfl ev27 ?_
      refine xcps4 (xj_set (v := v27) hy25 ry25 2 (by first | omega | decide) (by first | omega | decide)) (fun y28 s28 hy28 ry28 => ?_)
      refine xi_iastore (pc' := 11) (x' := y28) kc_12_10 rfl A25 rfl (xi_in (by decide) (by rw [hy25]; decide)) s28 (fun hh28 eh28 => ?_)
      have K29 := xk_pa K17 (xk_wa rfl) xD_140 hy28 ry28 eh28
      refine xi_iload_n (pc' := 12) (x := (-2)) kc_12_11 rfl rfl ?_
      refine xi_ireturn kc_12_12 mr_12 rfl ?_
      show xw J ov (d + 1) 70 (29, [(0, .ref 115), (1, .int x1), (2, .int x2), (3, .int x3), (4, .int x4)], [.int (-2)], hh28) _
      refine xi_ireturn kc_70_29 mr_70 rfl ?_
      have zcm2 : ((-2) : Int32).toInt = (-2) := by decide
      exact kk (-2) hh28 (by omega) K29
    · refine xi_cmf (pc' := 10) kc_11_7 rfl (xc_gt_f (X := x2.toInt) (Y := 3) rfl (by decide) (by omega)) ?_
      refine xi_iconst (pc' := 11) (v := 1) kc_11_10 rfl rfl ?_
      refine xi_goto (pc' := 15) kc_11_11 rfl ?_
      refine xi_ireturn kc_11_15 mr_11 rfl ?_
      show xw J ov (d + 1) 70 (11, [(0, .ref 115), (1, .int x1), (2, .int x2), (3, .int x3), (4, .int x4)], [.int 1], hh16) _
      refine xi_iff (pc' := 14) kc_70_11 rfl rfl ?_
      refine xi_iload_n (pc' := 15) (x := x3) kc_70_14 rfl rfl ?_
      refine xi_iconst (pc' := 16) (v := 0) kc_70_15 rfl rfl ?_
      refine xi_iconst (pc' := 17) (v := 1) kc_70_16 rfl rfl ?_
      refine xi_static (mj := 11) (as := [.int x3, .int 0, .int 1]) (st1 := []) (lv0 := [(0, .int x3), (1, .int 0), (2, .int 1)]) kc_70_17 rfl rfl (Nat.le_of_ble_eq_true rfl) rfl rfl (Nat.le_of_ble_eq_true rfl) (hJ _ _ _ _ (by decide)) (xm_le ml_11 rfl) rfl ?_
      refine xi_iload_n (pc' := 1) (x := x3) kc_11_0 rfl rfl ?_
      refine xi_iload_n (pc' := 2) (x := 0) kc_11_1 rfl rfl ?_
      by_cases c30 : x3.toInt < 0
      · refine xi_cmt (pc' := 14) kc_11_2 rfl (xc_lt_t (X := x3.toInt) (Y := 0) rfl (by decide) (by omega)) ?_
        refine xi_iconst (pc' := 15) (v := 0) kc_11_14 rfl rfl ?_
        refine xi_ireturn kc_11_15 mr_11 rfl ?_
        show xw J ov (d + 1) 70 (20, [(0, .ref 115), (1, .int x1), (2, .int x2), (3, .int x3), (4, .int x4)], [.int 0], hh16) _
        refine xi_iff (pc' := 23) kc_70_20 rfl rfl ?_
        refine xi_aload_n (pc' := 24) (x := 115) kc_70_23 rfl rfl ?_
        refine xi_bipush (pc' := 26) (v := (-2)) kc_70_24 rfl rfl ?_
        refine xi_virtual (mj := 12) (as := [.int (-2)]) (st1 := []) (lv0 := [(0, .ref 115), (1, .int (-2))]) kc_70_26 rfl rfl rfl rfl rfl eh15.1 (Nat.le_of_ble_eq_true rfl) (hJ _ _ _ _ (by decide)) (xm_le ml_12 rfl) rfl ?_
        refine xi_aload_n (pc' := 1) (x := 115) kc_12_0 rfl rfl ?_
        refine xi_getfield (pc' := 4) (v := .ref 140) kc_12_1 rfl rfl rfl eh15.1 rfl ?_
        refine xi_iload_n (pc' := 5) (x := (-2)) kc_12_4 rfl rfl ?_
        refine xi_ineg (pc' := 6) (v := 2) kc_12_5 rfl rfl ?_
        refine xi_dup2 (pc' := 7) kc_12_6 rfl ⟨rfl, rfl⟩ ?_
        refine xcps4 (xk_arr K17.1 xD_140) (fun y31 A31 hy31 ry31 => ?_)
        refine xcps4 (xj_get hy31 ry31 (i := 2) (by decide) (by decide)) (fun v32 ev32 bv32 dv32 => ?_)
        refine xi_iaload (pc' := 8) (v := v32) kc_12_7 rfl A31 (by decide) rfl (xi_in (by decide) (by rw [hy31]; decide)) ev32 ?_
        refine xi_iconst (pc' := 9) (v := 1) kc_12_8 rfl rfl ?_
        refine xcps2 (α := Int32) ((v32 : Int32) + 1) (fun v33 ev33 => ?_)
        have rv33 := xc_rng v33
        refine xi_iadd (pc' := 10) (v := v33) kc_12_9 rfl ev33 ?_
        refine xcps4 (xj_set (v := v33) hy31 ry31 2 (by first | omega | decide) (by first | omega | decide)) (fun y34 s34 hy34 ry34 => ?_)
        refine xi_iastore (pc' := 11) (x' := y34) kc_12_10 rfl A31 rfl (xi_in (by decide) (by rw [hy31]; decide)) s34 (fun hh34 eh34 => ?_)
        have K35 := xk_pa K17 (xk_wa rfl) xD_140 hy34 ry34 eh34
        refine xi_iload_n (pc' := 12) (x := (-2)) kc_12_11 rfl rfl ?_
        refine xi_ireturn kc_12_12 mr_12 rfl ?_
        show xw J ov (d + 1) 70 (29, [(0, .ref 115), (1, .int x1), (2, .int x2), (3, .int x3), (4, .int x4)], [.int (-2)], hh34) _
        refine xi_ireturn kc_70_29 mr_70 rfl ?_
        have zcm2 : ((-2) : Int32).toInt = (-2) := by decide
        exact kk (-2) hh34 (by omega) K35
      · refine xi_cmf (pc' := 5) kc_11_2 rfl (xc_lt_f (X := x3.toInt) (Y := 0) rfl (by decide) (by omega)) ?_
        refine xi_iload_n (pc' := 6) (x := x3) kc_11_5 rfl rfl ?_
        refine xi_iload_n (pc' := 7) (x := 1) kc_11_6 rfl rfl ?_
        by_cases c36 : 1 < x3.toInt
        · refine xi_cmt (pc' := 14) kc_11_7 rfl (xc_gt_t (X := x3.toInt) (Y := 1) rfl (by decide) (by omega)) ?_
          refine xi_iconst (pc' := 15) (v := 0) kc_11_14 rfl rfl ?_
          refine xi_ireturn kc_11_15 mr_11 rfl ?_
          show xw J ov (d + 1) 70 (20, [(0, .ref 115), (1, .int x1), (2, .int x2), (3, .int x3), (4, .int x4)], [.int 0], hh16) _
          refine xi_iff (pc' := 23) kc_70_20 rfl rfl ?_
          refine xi_aload_n (pc' := 24) (x := 115) kc_70_23 rfl rfl ?_
          refine xi_bipush (pc' := 26) (v := (-2)) kc_70_24 rfl rfl ?_
          refine xi_virtual (mj := 12) (as := [.int (-2)]) (st1 := []) (lv0 := [(0, .ref 115), (1, .int (-2))]) kc_70_26 rfl rfl rfl rfl rfl eh15.1 (Nat.le_of_ble_eq_true rfl) (hJ _ _ _ _ (by decide)) (xm_le ml_12 rfl) rfl ?_
          refine xi_aload_n (pc' := 1) (x := 115) kc_12_0 rfl rfl ?_
          refine xi_getfield (pc' := 4) (v := .ref 140) kc_12_1 rfl rfl rfl eh15.1 rfl ?_
          refine xi_iload_n (pc' := 5) (x := (-2)) kc_12_4 rfl rfl ?_
          refine xi_ineg (pc' := 6) (v := 2) kc_12_5 rfl rfl ?_
          refine xi_dup2 (pc' := 7) kc_12_6 rfl ⟨rfl, rfl⟩ ?_
          refine xcps4 (xk_arr K17.1 xD_140) (fun y37 A37 hy37 ry37 => ?_)
          refine xcps4 (xj_get hy37 ry37 (i := 2) (by decide) (by decide)) (fun v38 ev38 bv38 dv38 => ?_)
          refine xi_iaload (pc' := 8) (v := v38) kc_12_7 rfl A37 (by decide) rfl (xi_in (by decide) (by rw [hy37]; decide)) ev38 ?_
          refine xi_iconst (pc' := 9) (v := 1) kc_12_8 rfl rfl ?_
          refine xcps2 (α := Int32) ((v38 : Int32) + 1) (fun v39 ev39 => ?_)
          have rv39 := xc_rng v39
          refine xi_iadd (pc' := 10) (v := v39) kc_12_9 rfl ev39 ?_
          refine xcps4 (xj_set (v := v39) hy37 ry37 2 (by first | omega | decide) (by first | omega | decide)) (fun y40 s40 hy40 ry40 => ?_)
          refine xi_iastore (pc' := 11) (x' := y40) kc_12_10 rfl A37 rfl (xi_in (by decide) (by rw [hy37]; decide)) s40 (fun hh40 eh40 => ?_)
          have K41 := xk_pa K17 (xk_wa rfl) xD_140 hy40 ry40 eh40
          refine xi_iload_n (pc' := 12) (x := (-2)) kc_12_11 rfl rfl ?_
          refine xi_ireturn kc_12_12 mr_12 rfl ?_
          show xw J ov (d + 1) 70 (29, [(0, .ref 115), (1, .int x1), (2, .int x2), (3, .int x3), (4, .int x4)], [.int (-2)], hh40) _
          refine xi_ireturn kc_70_29 mr_70 rfl ?_
          have zcm2 : ((-2) : Int32).toInt = (-2) := by decide
          exact kk (-2) hh40 (by omega) K41
        · refine xi_cmf (pc' := 10) kc_11_7 rfl (xc_gt_f (X := x3.toInt) (Y := 1) rfl (by decide) (by omega)) ?_
          refine xi_iconst (pc' := 11) (v := 1) kc_11_10 rfl rfl ?_
          refine xi_goto (pc' := 15) kc_11_11 rfl ?_
          refine xi_ireturn kc_11_15 mr_11 rfl ?_
          show xw J ov (d + 1) 70 (20, [(0, .ref 115), (1, .int x1), (2, .int x2), (3, .int x3), (4, .int x4)], [.int 1], hh16) _
          refine xi_ift (pc' := 30) kc_70_20 rfl rfl ?_
          refine xi_iload_n (pc' := 31) (x := x1) kc_70_30 rfl rfl ?_
          refine xi_aload_n (pc' := 32) (x := 115) kc_70_31 rfl rfl ?_
          refine xi_getfield (pc' := 35) (v := .int u2) kc_70_32 rfl rfl rfl eh15.1 rfl ?_
          refine xi_bipush (pc' := 37) (v := 24) kc_70_35 rfl rfl ?_
          refine xcps2 (α := Int32) (u2 / 24) (fun v42 ev42 => ?_)
          have dv42 : v42.toInt = u2.toInt / 24 := by rw [← ev42]; exact xz_dive (X := u2.toInt) (Y := 24) rfl (by decide) (by omega) (by decide)
          have bv42 : 0 ≤ v42.toInt ∧ v42.toInt ≤ 25 := by omega
          refine xi_idiv (pc' := 38) (v := v42) kc_70_37 rfl ev42 (by decide) ?_
          by_cases c43 : x1.toInt < v42.toInt
          · refine xi_cmt (pc' := 46) kc_70_38 rfl (xc_lt_t (X := x1.toInt) (Y := v42.toInt) rfl rfl (by omega)) ?_
            refine xi_aload_n (pc' := 47) (x := 115) kc_70_46 rfl rfl ?_
            refine xi_bipush (pc' := 49) (v := (-4)) kc_70_47 rfl rfl ?_
            refine xi_virtual (mj := 12) (as := [.int (-4)]) (st1 := []) (lv0 := [(0, .ref 115), (1, .int (-4))]) kc_70_49 rfl rfl rfl rfl rfl eh15.1 (Nat.le_of_ble_eq_true rfl) (hJ _ _ _ _ (by decide)) (xm_le ml_12 rfl) rfl ?_
            refine xi_aload_n (pc' := 1) (x := 115) kc_12_0 rfl rfl ?_
            refine xi_getfield (pc' := 4) (v := .ref 140) kc_12_1 rfl rfl rfl eh15.1 rfl ?_
            refine xi_iload_n (pc' := 5) (x := (-4)) kc_12_4 rfl rfl ?_
            refine xi_ineg (pc' := 6) (v := 4) kc_12_5 rfl rfl ?_
            refine xi_dup2 (pc' := 7) kc_12_6 rfl ⟨rfl, rfl⟩ ?_
            refine xcps4 (xk_arr K17.1 xD_140) (fun y44 A44 hy44 ry44 => ?_)
            refine xcps4 (xj_get hy44 ry44 (i := 4) (by decide) (by decide)) (fun v45 ev45 bv45 dv45 => ?_)
            refine xi_iaload (pc' := 8) (v := v45) kc_12_7 rfl A44 (by decide) rfl (xi_in (by decide) (by rw [hy44]; decide)) ev45 ?_
            refine xi_iconst (pc' := 9) (v := 1) kc_12_8 rfl rfl ?_
            refine xcps2 (α := Int32) ((v45 : Int32) + 1) (fun v46 ev46 => ?_)
            have rv46 := xc_rng v46
            refine xi_iadd (pc' := 10) (v := v46) kc_12_9 rfl ev46 ?_
            refine xcps4 (xj_set (v := v46) hy44 ry44 4 (by first | omega | decide) (by first | omega | decide)) (fun y47 s47 hy47 ry47 => ?_)
            refine xi_iastore (pc' := 11) (x' := y47) kc_12_10 rfl A44 rfl (xi_in (by decide) (by rw [hy44]; decide)) s47 (fun hh47 eh47 => ?_)
            have K48 := xk_pa K17 (xk_wa rfl) xD_140 hy47 ry47 eh47
            refine xi_iload_n (pc' := 12) (x := (-4)) kc_12_11 rfl rfl ?_
            refine xi_ireturn kc_12_12 mr_12 rfl ?_
            show xw J ov (d + 1) 70 (52, [(0, .ref 115), (1, .int x1), (2, .int x2), (3, .int x3), (4, .int x4)], [.int (-4)], hh47) _
            refine xi_ireturn kc_70_52 mr_70 rfl ?_
            have zcm4 : ((-4) : Int32).toInt = (-4) := by decide
            exact kk (-4) hh47 (by omega) K48
          · refine xi_cmf (pc' := 41) kc_70_38 rfl (xc_lt_f (X := x1.toInt) (Y := v42.toInt) rfl rfl (by omega)) ?_
            refine xi_iload (pc' := 43) (x := x4) kc_70_41 rfl rfl ?_
            by_cases c49 : 0 ≤ x4.toInt
            · refine xi_ift (pc' := 53) kc_70_43 rfl (xc_ge_t (X := x4.toInt) (Y := 0) rfl (by decide) (by omega)) ?_
              refine xi_iload_n (pc' := 54) (x := x1) kc_70_53 rfl rfl ?_
              refine xi_bipush (pc' := 56) (v := 25) kc_70_54 rfl rfl ?_
              by_cases c50 : 25 < x1.toInt
              · refine xi_cmt (pc' := 75) kc_70_56 rfl (xc_gt_t (X := x1.toInt) (Y := 25) rfl (by decide) (by omega)) ?_
                refine xi_aload_n (pc' := 76) (x := 115) kc_70_75 rfl rfl ?_
                refine xi_bipush (pc' := 78) (v := (-6)) kc_70_76 rfl rfl ?_
                refine xi_virtual (mj := 12) (as := [.int (-6)]) (st1 := []) (lv0 := [(0, .ref 115), (1, .int (-6))]) kc_70_78 rfl rfl rfl rfl rfl eh15.1 (Nat.le_of_ble_eq_true rfl) (hJ _ _ _ _ (by decide)) (xm_le ml_12 rfl) rfl ?_
                refine xi_aload_n (pc' := 1) (x := 115) kc_12_0 rfl rfl ?_
                refine xi_getfield (pc' := 4) (v := .ref 140) kc_12_1 rfl rfl rfl eh15.1 rfl ?_
                refine xi_iload_n (pc' := 5) (x := (-6)) kc_12_4 rfl rfl ?_
                refine xi_ineg (pc' := 6) (v := 6) kc_12_5 rfl rfl ?_
                refine xi_dup2 (pc' := 7) kc_12_6 rfl ⟨rfl, rfl⟩ ?_
                refine xcps4 (xk_arr K17.1 xD_140) (fun y51 A51 hy51 ry51 => ?_)
                refine xcps4 (xj_get hy51 ry51 (i := 6) (by decide) (by decide)) (fun v52 ev52 bv52 dv52 => ?_)
                refine xi_iaload (pc' := 8) (v := v52) kc_12_7 rfl A51 (by decide) rfl (xi_in (by decide) (by rw [hy51]; decide)) ev52 ?_
                refine xi_iconst (pc' := 9) (v := 1) kc_12_8 rfl rfl ?_
                refine xcps2 (α := Int32) ((v52 : Int32) + 1) (fun v53 ev53 => ?_)
                have rv53 := xc_rng v53
                refine xi_iadd (pc' := 10) (v := v53) kc_12_9 rfl ev53 ?_
                refine xcps4 (xj_set (v := v53) hy51 ry51 6 (by first | omega | decide) (by first | omega | decide)) (fun y54 s54 hy54 ry54 => ?_)
                refine xi_iastore (pc' := 11) (x' := y54) kc_12_10 rfl A51 rfl (xi_in (by decide) (by rw [hy51]; decide)) s54 (fun hh54 eh54 => ?_)
                have K55 := xk_pa K17 (xk_wa rfl) xD_140 hy54 ry54 eh54
                refine xi_iload_n (pc' := 12) (x := (-6)) kc_12_11 rfl rfl ?_
                refine xi_ireturn kc_12_12 mr_12 rfl ?_
                show xw J ov (d + 1) 70 (81, [(0, .ref 115), (1, .int x1), (2, .int x2), (3, .int x3), (4, .int x4)], [.int (-6)], hh54) _
                refine xi_ireturn kc_70_81 mr_70 rfl ?_
                have zcm6 : ((-6) : Int32).toInt = (-6) := by decide
                exact kk (-6) hh54 (by omega) K55
              · refine xi_cmf (pc' := 59) kc_70_56 rfl (xc_gt_f (X := x1.toInt) (Y := 25) rfl (by decide) (by omega)) ?_
                refine xi_iload (pc' := 61) (x := x4) kc_70_59 rfl rfl ?_
                refine xi_bipush (pc' := 63) (v := 99) kc_70_61 rfl rfl ?_
                by_cases c56 : 99 < x4.toInt
                · refine xi_cmt (pc' := 75) kc_70_63 rfl (xc_gt_t (X := x4.toInt) (Y := 99) rfl (by decide) (by omega)) ?_
                  refine xi_aload_n (pc' := 76) (x := 115) kc_70_75 rfl rfl ?_
                  refine xi_bipush (pc' := 78) (v := (-6)) kc_70_76 rfl rfl ?_
                  refine xi_virtual (mj := 12) (as := [.int (-6)]) (st1 := []) (lv0 := [(0, .ref 115), (1, .int (-6))]) kc_70_78 rfl rfl rfl rfl rfl eh15.1 (Nat.le_of_ble_eq_true rfl) (hJ _ _ _ _ (by decide)) (xm_le ml_12 rfl) rfl ?_
                  refine xi_aload_n (pc' := 1) (x := 115) kc_12_0 rfl rfl ?_
                  refine xi_getfield (pc' := 4) (v := .ref 140) kc_12_1 rfl rfl rfl eh15.1 rfl ?_
                  refine xi_iload_n (pc' := 5) (x := (-6)) kc_12_4 rfl rfl ?_
                  refine xi_ineg (pc' := 6) (v := 6) kc_12_5 rfl rfl ?_
                  refine xi_dup2 (pc' := 7) kc_12_6 rfl ⟨rfl, rfl⟩ ?_
                  refine xcps4 (xk_arr K17.1 xD_140) (fun y57 A57 hy57 ry57 => ?_)
                  refine xcps4 (xj_get hy57 ry57 (i := 6) (by decide) (by decide)) (fun v58 ev58 bv58 dv58 => ?_)
                  refine xi_iaload (pc' := 8) (v := v58) kc_12_7 rfl A57 (by decide) rfl (xi_in (by decide) (by rw [hy57]; decide)) ev58 ?_
                  refine xi_iconst (pc' := 9) (v := 1) kc_12_8 rfl rfl ?_
                  refine xcps2 (α := Int32) ((v58 : Int32) + 1) (fun v59 ev59 => ?_)
                  have rv59 := xc_rng v59
                  refine xi_iadd (pc' := 10) (v := v59) kc_12_9 rfl ev59 ?_
                  refine xcps4 (xj_set (v := v59) hy57 ry57 6 (by first | omega | decide) (by first | omega | decide)) (fun y60 s60 hy60 ry60 => ?_)
                  refine xi_iastore (pc' := 11) (x' := y60) kc_12_10 rfl A57 rfl (xi_in (by decide) (by rw [hy57]; decide)) s60 (fun hh60 eh60 => ?_)
                  have K61 := xk_pa K17 (xk_wa rfl) xD_140 hy60 ry60 eh60
                  refine xi_iload_n (pc' := 12) (x := (-6)) kc_12_11 rfl rfl ?_
                  refine xi_ireturn kc_12_12 mr_12 rfl ?_
                  show xw J ov (d + 1) 70 (81, [(0, .ref 115), (1, .int x1), (2, .int x2), (3, .int x3), (4, .int x4)], [.int (-6)], hh60) _
                  refine xi_ireturn kc_70_81 mr_70 rfl ?_
                  have zcm6 : ((-6) : Int32).toInt = (-6) := by decide
                  exact kk (-6) hh60 (by omega) K61
                · refine xi_cmf (pc' := 66) kc_70_63 rfl (xc_gt_f (X := x4.toInt) (Y := 99) rfl (by decide) (by omega)) ?_
                  refine xi_aload_n (pc' := 67) (x := 115) kc_70_66 rfl rfl ?_
                  refine xi_getfield (pc' := 70) (v := .int u12) kc_70_67 rfl rfl rfl eh15.1 rfl ?_
                  refine xi_bipush (pc' := 72) (v := 12) kc_70_70 rfl rfl ?_
                  by_cases c62 : u12.toInt = 12
                  · refine xi_cmf (pc' := 75) kc_70_72 rfl (xc_ne_f (X := u12.toInt) (Y := 12) rfl (by decide) (by omega)) ?_
                    refine xi_aload_n (pc' := 76) (x := 115) kc_70_75 rfl rfl ?_
                    refine xi_bipush (pc' := 78) (v := (-6)) kc_70_76 rfl rfl ?_
                    refine xi_virtual (mj := 12) (as := [.int (-6)]) (st1 := []) (lv0 := [(0, .ref 115), (1, .int (-6))]) kc_70_78 rfl rfl rfl rfl rfl eh15.1 (Nat.le_of_ble_eq_true rfl) (hJ _ _ _ _ (by decide)) (xm_le ml_12 rfl) rfl ?_
                    refine xi_aload_n (pc' := 1) (x := 115) kc_12_0 rfl rfl ?_
                    refine xi_getfield (pc' := 4) (v := .ref 140) kc_12_1 rfl rfl rfl eh15.1 rfl ?_
                    refine xi_iload_n (pc' := 5) (x := (-6)) kc_12_4 rfl rfl ?_
                    refine xi_ineg (pc' := 6) (v := 6) kc_12_5 rfl rfl ?_
                    refine xi_dup2 (pc' := 7) kc_12_6 rfl ⟨rfl, rfl⟩ ?_
                    refine xcps4 (xk_arr K17.1 xD_140) (fun y63 A63 hy63 ry63 => ?_)
                    refine xcps4 (xj_get hy63 ry63 (i := 6) (by decide) (by decide)) (fun v64 ev64 bv64 dv64 => ?_)
                    refine xi_iaload (pc' := 8) (v := v64) kc_12_7 rfl A63 (by decide) rfl (xi_in (by decide) (by rw [hy63]; decide)) ev64 ?_
                    refine xi_iconst (pc' := 9) (v := 1) kc_12_8 rfl rfl ?_
                    refine xcps2 (α := Int32) ((v64 : Int32) + 1) (fun v65 ev65 => ?_)
                    have rv65 := xc_rng v65
                    refine xi_iadd (pc' := 10) (v := v65) kc_12_9 rfl ev65 ?_
                    refine xcps4 (xj_set (v := v65) hy63 ry63 6 (by first | omega | decide) (by first | omega | decide)) (fun y66 s66 hy66 ry66 => ?_)
                    refine xi_iastore (pc' := 11) (x' := y66) kc_12_10 rfl A63 rfl (xi_in (by decide) (by rw [hy63]; decide)) s66 (fun hh66 eh66 => ?_)
                    have K67 := xk_pa K17 (xk_wa rfl) xD_140 hy66 ry66 eh66
                    refine xi_iload_n (pc' := 12) (x := (-6)) kc_12_11 rfl rfl ?_
                    refine xi_ireturn kc_12_12 mr_12 rfl ?_
                    show xw J ov (d + 1) 70 (81, [(0, .ref 115), (1, .int x1), (2, .int x2), (3, .int x3), (4, .int x4)], [.int (-6)], hh66) _
                    refine xi_ireturn kc_70_81 mr_70 rfl ?_
                    have zcm6 : ((-6) : Int32).toInt = (-6) := by decide
                    exact kk (-6) hh66 (by omega) K67
                  · refine xi_cmt (pc' := 82) kc_70_72 rfl (xc_ne_t (X := u12.toInt) (Y := 12) rfl (by decide) (by omega)) ?_
                    refine xi_aload_n (pc' := 83) (x := 115) kc_70_82 rfl rfl ?_
                    refine xi_getfield (pc' := 86) (v := .ref 161) kc_70_83 rfl rfl rfl eh15.1 rfl ?_
                    refine xi_aload_n (pc' := 87) (x := 115) kc_70_86 rfl rfl ?_
                    refine xi_getfield (pc' := 90) (v := .int u12) kc_70_87 rfl rfl rfl eh15.1 rfl ?_
                    refine xi_iload_n (pc' := 91) (x := x1) kc_70_90 rfl rfl ?_
                    refine xcps4 (xk_arr K17.1 xD_161) (fun y68 A68 hy68 ry68 => ?_)
                    refine xcps4 (xj_set (v := x1) hy68 ry68 u12 (by first | omega | decide) (by first | omega | decide)) (fun y69 s69 hy69 ry69 => ?_)
                    refine xi_iastore (pc' := 92) (x' := y69) kc_70_91 rfl A68 rfl (xi_in (by omega) (by rw [hy68]; omega)) s69 (fun hh69 eh69 => ?_)
                    have K70 := xk_pa K17 (xk_wa rfl) xD_161 hy69 ry69 eh69
                    refine xi_aload_n (pc' := 93) (x := 115) kc_70_92 rfl rfl ?_
                    have A71 := ((eh69.2.1 115 (by decide)).trans eh15.1)
                    refine xi_getfield (pc' := 96) (v := .ref 162) kc_70_93 rfl rfl rfl A71 rfl ?_
                    refine xi_aload_n (pc' := 97) (x := 115) kc_70_96 rfl rfl ?_
                    refine xi_getfield (pc' := 100) (v := .int u12) kc_70_97 rfl rfl rfl A71 rfl ?_
                    refine xi_iload_n (pc' := 101) (x := x2) kc_70_100 rfl rfl ?_
                    refine xcps4 (xk_arr K70.1 xD_162) (fun y72 A72 hy72 ry72 => ?_)
                    refine xcps4 (xj_set (v := x2) hy72 ry72 u12 (by first | omega | decide) (by first | omega | decide)) (fun y73 s73 hy73 ry73 => ?_)
                    refine xi_iastore (pc' := 102) (x' := y73) kc_70_101 rfl A72 rfl (xi_in (by omega) (by rw [hy72]; omega)) s73 (fun hh73 eh73 => ?_)
                    have K74 := xk_pa K70 (xk_wa rfl) xD_162 hy73 ry73 eh73
                    refine xi_aload_n (pc' := 103) (x := 115) kc_70_102 rfl rfl ?_
                    have A75 := ((eh73.2.1 115 (by decide)).trans A71)
                    refine xi_getfield (pc' := 106) (v := .ref 163) kc_70_103 rfl rfl rfl A75 rfl ?_
                    refine xi_aload_n (pc' := 107) (x := 115) kc_70_106 rfl rfl ?_
                    refine xi_getfield (pc' := 110) (v := .int u12) kc_70_107 rfl rfl rfl A75 rfl ?_
                    refine xi_iload_n (pc' := 111) (x := x3) kc_70_110 rfl rfl ?_
                    refine xcps4 (xk_arr K74.1 xD_163) (fun y76 A76 hy76 ry76 => ?_)
                    refine xcps4 (xj_set (v := x3) hy76 ry76 u12 (by first | omega | decide) (by first | omega | decide)) (fun y77 s77 hy77 ry77 => ?_)
                    refine xi_iastore (pc' := 112) (x' := y77) kc_70_111 rfl A76 rfl (xi_in (by omega) (by rw [hy76]; omega)) s77 (fun hh77 eh77 => ?_)
                    have K78 := xk_pa K74 (xk_wa rfl) xD_163 hy77 ry77 eh77
                    refine xi_aload_n (pc' := 113) (x := 115) kc_70_112 rfl rfl ?_
                    have A79 := ((eh77.2.1 115 (by decide)).trans A75)
                    refine xi_getfield (pc' := 116) (v := .ref 164) kc_70_113 rfl rfl rfl A79 rfl ?_
                    refine xi_aload_n (pc' := 117) (x := 115) kc_70_116 rfl rfl ?_
                    refine xi_getfield (pc' := 120) (v := .int u12) kc_70_117 rfl rfl rfl A79 rfl ?_
                    refine xi_iload (pc' := 122) (x := x4) kc_70_120 rfl rfl ?_
                    refine xcps4 (xk_arr K78.1 xD_164) (fun y80 A80 hy80 ry80 => ?_)
                    refine xcps4 (xj_set (v := x4) hy80 ry80 u12 (by first | omega | decide) (by first | omega | decide)) (fun y81 s81 hy81 ry81 => ?_)
                    refine xi_iastore (pc' := 123) (x' := y81) kc_70_122 rfl A80 rfl (xi_in (by omega) (by rw [hy80]; omega)) s81 (fun hh81 eh81 => ?_)
                    have K82 := xk_pa K78 (xk_wa rfl) xD_164 hy81 ry81 eh81
                    refine xi_aload_n (pc' := 124) (x := 115) kc_70_123 rfl rfl ?_
                    refine xi_dup (pc' := 125) kc_70_124 rfl rfl ?_
                    have A83 := ((eh81.2.1 115 (by decide)).trans A79)
                    refine xi_getfield (pc' := 128) (v := .int u12) kc_70_125 rfl rfl rfl A83 rfl ?_
                    refine xi_iconst (pc' := 129) (v := 1) kc_70_128 rfl rfl ?_
                    refine xcps2 (α := Int32) (u12 + 1) (fun v84 ev84 => ?_)
                    have zv84 : v84.toInt = (u12.toInt + 1) := by rw [← ev84]; exact (xz_add (X := u12.toInt) (Y := 1) rfl (by decide) (by omega) (by omega)).trans (by omega)
                    refine xi_iadd (pc' := 130) (v := v84) kc_70_129 rfl ev84 ?_
                    refine xi_putfield (pc' := 133) (fs' := [.int 0, .int u2, .ref 116, .ref 117, .ref 118, .ref 119, .ref 120, .ref 121, .ref 122, .ref 123, .ref 124, .ref 125, .ref 126, .ref 127, .ref 128, .ref 129, .int u3, .ref 130, .int u4, .ref 131, .ref 132, .ref 133, .ref 134, .int u5, .ref 135, .ref 136, .ref 137, .ref 138, .ref 139, .ref 140, .ref 141, .ref 142, .int u6, .int u7, .int u8, .ref 143, .ref 144, .ref 145, .ref 146, .ref 147, .ref 148, .int u9, .ref 149, .ref 150, .ref 151, .int u10, .ref 152, .ref 153, .ref 154, .ref 155, .ref 156, .ref 157, .ref 158, .ref 159, .int u11, .ref 160, .int v84, .ref 161, .ref 162, .ref 163, .ref 164, .int u13, .ref 165, .ref 166]) kc_70_130 rfl rfl rfl A83 rfl rfl rfl (Nat.le_of_ble_eq_true rfl) rfl (fun hh86 eh85 => ?_)
                    have K87 := xk_pf (k := 56) (v := v84) K82 (xk_wf rfl) xD_115 A83 rfl (by first | omega | decide) (by first | omega | decide) eh85 rfl
                    refine xi_aload_n (pc' := 134) (x := 115) kc_70_133 rfl rfl ?_
                    refine xi_getfield (pc' := 137) (v := .int v84) kc_70_134 rfl rfl rfl eh85.1 rfl ?_
                    refine xi_iconst (pc' := 138) (v := 1) kc_70_137 rfl rfl ?_
                    refine xcps2 (α := Int32) (v84 - 1) (fun v88 ev88 => ?_)
                    have zv88 : v88.toInt = u12.toInt := by rw [← ev88]; exact (xz_sub (X := (u12.toInt + 1)) (Y := 1) zv84 (by decide) (by omega) (by omega)).trans (by omega)
                    refine xi_isub (pc' := 139) (v := v88) kc_70_138 rfl ev88 ?_
                    refine xi_ireturn kc_70_139 mr_70 rfl ?_
                    exact kk v88 hh86 (by omega) K87
            · refine xi_iff (pc' := 46) kc_70_43 rfl (xc_ge_f (X := x4.toInt) (Y := 0) rfl (by decide) (by omega)) ?_
              refine xi_aload_n (pc' := 47) (x := 115) kc_70_46 rfl rfl ?_
              refine xi_bipush (pc' := 49) (v := (-4)) kc_70_47 rfl rfl ?_
              refine xi_virtual (mj := 12) (as := [.int (-4)]) (st1 := []) (lv0 := [(0, .ref 115), (1, .int (-4))]) kc_70_49 rfl rfl rfl rfl rfl eh15.1 (Nat.le_of_ble_eq_true rfl) (hJ _ _ _ _ (by decide)) (xm_le ml_12 rfl) rfl ?_
              refine xi_aload_n (pc' := 1) (x := 115) kc_12_0 rfl rfl ?_
              refine xi_getfield (pc' := 4) (v := .ref 140) kc_12_1 rfl rfl rfl eh15.1 rfl ?_
              refine xi_iload_n (pc' := 5) (x := (-4)) kc_12_4 rfl rfl ?_
              refine xi_ineg (pc' := 6) (v := 4) kc_12_5 rfl rfl ?_
              refine xi_dup2 (pc' := 7) kc_12_6 rfl ⟨rfl, rfl⟩ ?_
              refine xcps4 (xk_arr K17.1 xD_140) (fun y89 A89 hy89 ry89 => ?_)
              refine xcps4 (xj_get hy89 ry89 (i := 4) (by decide) (by decide)) (fun v90 ev90 bv90 dv90 => ?_)
              refine xi_iaload (pc' := 8) (v := v90) kc_12_7 rfl A89 (by decide) rfl (xi_in (by decide) (by rw [hy89]; decide)) ev90 ?_
              refine xi_iconst (pc' := 9) (v := 1) kc_12_8 rfl rfl ?_
              refine xcps2 (α := Int32) ((v90 : Int32) + 1) (fun v91 ev91 => ?_)
              have rv91 := xc_rng v91
              refine xi_iadd (pc' := 10) (v := v91) kc_12_9 rfl ev91 ?_
              refine xcps4 (xj_set (v := v91) hy89 ry89 4 (by first | omega | decide) (by first | omega | decide)) (fun y92 s92 hy92 ry92 => ?_)
              refine xi_iastore (pc' := 11) (x' := y92) kc_12_10 rfl A89 rfl (xi_in (by decide) (by rw [hy89]; decide)) s92 (fun hh92 eh92 => ?_)
              have K93 := xk_pa K17 (xk_wa rfl) xD_140 hy92 ry92 eh92
              refine xi_iload_n (pc' := 12) (x := (-4)) kc_12_11 rfl rfl ?_
              refine xi_ireturn kc_12_12 mr_12 rfl ?_
              show xw J ov (d + 1) 70 (52, [(0, .ref 115), (1, .int x1), (2, .int x2), (3, .int x3), (4, .int x4)], [.int (-4)], hh92) _
              refine xi_ireturn kc_70_52 mr_70 rfl ?_
              have zcm4 : ((-4) : Int32).toInt = (-4) := by decide
              exact kk (-4) hh92 (by omega) K93
