set_option maxHeartbeats 4000000 in
theorem lp_37_0 {J : xe_J} {ov : List (List Int32)} (hJ : ∀ d mj as h, mj ≠ xe_loff → J d mj as h = none) (hov1 : ov[1]? = some [10, 0, 0, 0, 0, 0]) (hov2 : ov[2]? = some [99, 30, 50, 50, 1, 99999]) {d : Nat} {Q : Option Value → xe_H → Prop} {hb : xe_H} (kk : (∀ h' : xe_H, xk [(0, 9), (115, 1), (83, 0), (29, 0), (31, 0), (33, 0), (35, 0), (37, 0), (39, 0), (41, 0), (43, 0), (45, 0), (47, 0), (49, 0), (51, 0), (125, 0), (29, 2), (31, 2), (33, 2), (35, 2), (37, 2), (39, 2), (41, 2), (43, 2), (45, 2), (47, 2), (49, 2), (51, 2), (127, 0), (1, 5), (115, 23)] hb h' → Q none h')) : ∀ m : Nat, (∀ (x1 : Int32) (x2 : Int32) (x3 : Int32) (x4 : Int32) (x5 : Int32) (x6 : Int32) (h : xe_H), (0 ≤ x1.toInt ∧ x1.toInt ≤ 5) → (0 ≤ x2.toInt ∧ x2.toInt ≤ 63) → (0 ≤ x3.toInt ∧ x3.toInt ≤ 1) → (0 ≤ x4.toInt ∧ x4.toInt ≤ 599) → (0 ≤ x6.toInt ∧ x6.toInt ≤ 10) → xk [(0, 9), (115, 1), (83, 0), (29, 0), (31, 0), (33, 0), (35, 0), (37, 0), (39, 0), (41, 0), (43, 0), (45, 0), (47, 0), (49, 0), (51, 0), (125, 0), (29, 2), (31, 2), (33, 2), (35, 2), (37, 2), (39, 2), (41, 2), (43, 2), (45, 2), (47, 2), (49, 2), (51, 2), (127, 0), (1, 5), (115, 23)] hb h → (-1) * x6.toInt + 10 < (m : Int) → xw J ov (d + 3) 37 (27, [(0, .ref 115), (1, .int x1), (2, .int x2), (3, .int x3), (4, .int x4), (5, .int x5), (6, .int x6)], [], h) Q) := by
  intro m
  induction m with
  | zero =>
    intro x1 x2 x3 x4 x5 x6 h b1 b2 b3 b4 b6 K hm; have rx5 := xc_rng x5; exfalso; omega
  | succ m ih =>
    have i0 := ih
    intro x1 x2 x3 x4 x5 x6 h b1 b2 b3 b4 b6 K hm
    have rx5 := xc_rng x5
    refine xi_iload (pc' := 29) (x := x6) kc_37_27 rfl rfl ?_
    refine xi_aload_n (pc' := 30) (x := 115) kc_37_29 rfl rfl ?_
    refine xp_115 K.1 (fun u1 u2 u3 u4 u5 u6 u7 u8 u9 u10 u11 u12 u13 bu1 bu2 bu3 bu4 bu5 bu6 bu7 bu8 bu9 bu10 bu11 bu12 bu13 A14 => ?_)
    refine xi_getfield (pc' := 33) (v := .int u5) kc_37_30 rfl rfl rfl A14 rfl ?_
    by_cases c15 : u5.toInt ≤ x6.toInt
    · refine xi_cmt (pc' := 93) kc_37_33 rfl (xc_ge_t (X := x6.toInt) (Y := u5.toInt) rfl rfl (by omega)) ?_
      refine xi_iload (pc' := 95) (x := x5) kc_37_93 rfl rfl ?_
      refine xi_static (mj := 39) (as := [.int x5]) (st1 := []) (lv0 := [(0, .int x5)]) kc_37_95 rfl rfl (Nat.le_of_ble_eq_true rfl) rfl rfl (Nat.le_of_ble_eq_true rfl) (hJ _ _ _ _ (by decide)) (xm_le ml_39 rfl) rfl ?_
      refine mt_39_0 hJ hov1 hov2 (d := d + 1) (x0 := x5) K.1 (fun r16 hh17 br16 K18 => ?_)
      have K19 := xk_tr K K18 rfl
      refine xp_115 K19.1 (fun u20 u21 u22 u23 u24 u25 u26 u27 u28 u29 u30 u31 u32 bu20 bu21 bu22 bu23 bu24 bu25 bu26 bu27 bu28 bu29 bu30 bu31 bu32 A33 => ?_)
      have e34 : u2 = u21 := xk_eqi (q := 1) K18 rfl A14 A33 rfl rfl
      subst e34
      have e35 : u5 = u24 := xk_eqi (q := 23) K18 rfl A14 A33 rfl rfl
      subst e35
      show xw J ov (d + 3) 37 (98, [(0, .ref 115), (1, .int x1), (2, .int x2), (3, .int x3), (4, .int x4), (5, .int x5), (6, .int x6)], [.int r16], hh17) _
      refine xi_istore (pc' := 100) (lv' := [(5, .int r16), (0, .ref 115), (1, .int x1), (2, .int x2), (3, .int x3), (4, .int x4), (6, .int x6)]) kc_37_98 rfl rfl (xm_lt ml_37 rfl) ?_
      refine xi_aload_n (pc' := 101) (x := 115) kc_37_100 rfl rfl ?_
      refine xi_getfield (pc' := 104) (v := .ref 116) kc_37_101 rfl rfl rfl A33 rfl ?_
      refine xi_iload_n (pc' := 105) (x := x1) kc_37_104 rfl rfl ?_
      refine xcps4 (xk_arr K19.1 xD_116) (fun y36 A36 hy36 ry36 => ?_)
      refine xcps4 (xj_get hy36 ry36 (i := x1) (by omega) (by omega)) (fun v37 ev37 bv37 dv37 => ?_)
      refine xi_iaload (pc' := 106) (v := v37) kc_37_105 rfl A36 (by decide) rfl (xi_in (by omega) (by rw [hy36]; omega)) ev37 ?_
      refine xi_aload_n (pc' := 107) (x := 115) kc_37_106 rfl rfl ?_
      refine xi_getfield (pc' := 110) (v := .int u25) kc_37_107 rfl rfl rfl A33 rfl ?_
      refine xi_static (mj := 22) (as := [.int u25]) (st1 := [.int v37]) (lv0 := [(0, .int u25)]) kc_37_110 rfl rfl (Nat.le_of_ble_eq_true rfl) rfl rfl (Nat.le_of_ble_eq_true rfl) (hJ _ _ _ _ (by decide)) (xm_le ml_22 rfl) rfl ?_
      refine mt_22_0 hJ hov1 hov2 (d := d + 1) (x0 := u25) K19.1 (fun r38 hh39 br38 K40 => ?_)
      have K41 := xk_tr K19 K40 rfl
      refine xp_115 K41.1 (fun u42 u43 u44 u45 u46 u47 u48 u49 u50 u51 u52 u53 u54 bu42 bu43 bu44 bu45 bu46 bu47 bu48 bu49 bu50 bu51 bu52 bu53 bu54 A55 => ?_)
      have e56 : u2 = u43 := xk_eqi (q := 1) K40 rfl A33 A55 rfl rfl
      subst e56
      have e57 : u5 = u46 := xk_eqi (q := 23) K40 rfl A33 A55 rfl rfl
      subst e57
      show xw J ov (d + 3) 37 (113, [(5, .int r16), (0, .ref 115), (1, .int x1), (2, .int x2), (3, .int x3), (4, .int x4), (6, .int x6)], [.int r38, .int v37], hh39) _
      refine xcps2 (α := Int32) ((v37 : Int32) * r38) (fun v58 ev58 => ?_)
      have rv58 := xc_rng v58
      refine xi_imul (pc' := 114) (v := v58) kc_37_113 rfl ev58 ?_
      refine xi_iconst (pc' := 115) (v := 2) kc_37_114 rfl rfl ?_
      refine xcps2 (α := Int32) (v58 / 2) (fun v59 ev59 => ?_)
      have dv59 : 2 * v59.toInt ≤ v58.toInt + 1 ∧ v58.toInt ≤ 2 * v59.toInt + 1 := by rw [← ev59]; exact xz_div (X := v58.toInt) (Y := 2) rfl (by decide) (by decide)
      have bv59 : -1073741825 ≤ v59.toInt ∧ v59.toInt ≤ 1073741824 := by omega
      refine xi_idiv (pc' := 116) (v := v59) kc_37_115 rfl ev59 (by decide) ?_
      refine xi_istore (pc' := 118) (lv' := [(6, .int v59), (5, .int r16), (0, .ref 115), (1, .int x1), (2, .int x2), (3, .int x3), (4, .int x4)]) kc_37_116 rfl rfl (xm_lt ml_37 rfl) ?_
      refine xi_iload (pc' := 120) (x := r16) kc_37_118 rfl rfl ?_
      refine xi_iload (pc' := 122) (x := r16) kc_37_120 rfl rfl ?_
      refine xi_iload (pc' := 124) (x := v59) kc_37_122 rfl rfl ?_
      refine xcps2 (α := Int32) (r16 - v59) (fun v60 ev60 => ?_)
      have zv60 : v60.toInt = (r16.toInt + (-1) * v59.toInt) := by rw [← ev60]; exact (xz_sub (X := r16.toInt) (Y := v59.toInt) rfl rfl (by omega) (by omega)).trans (by omega)
      refine xi_isub (pc' := 125) (v := v60) kc_37_124 rfl ev60 ?_
      refine xi_aload_n (pc' := 126) (x := 115) kc_37_125 rfl rfl ?_
      refine xi_getfield (pc' := 129) (v := .ref 118) kc_37_126 rfl rfl rfl A55 rfl ?_
      refine xi_iload_n (pc' := 130) (x := x1) kc_37_129 rfl rfl ?_
      refine xcps4 (xk_arr K41.1 xD_118) (fun y61 A61 hy61 ry61 => ?_)
      refine xcps4 (xj_get hy61 ry61 (i := x1) (by omega) (by omega)) (fun v62 ev62 bv62 dv62 => ?_)
      refine xi_iaload (pc' := 131) (v := v62) kc_37_130 rfl A61 (by decide) rfl (xi_in (by omega) (by rw [hy61]; omega)) ev62 ?_
      refine xi_aload_n (pc' := 132) (x := 115) kc_37_131 rfl rfl ?_
      refine xi_getfield (pc' := 135) (v := .ref 120) kc_37_132 rfl rfl rfl A55 rfl ?_
      refine xi_iload_n (pc' := 136) (x := x1) kc_37_135 rfl rfl ?_
      refine xcps4 (xk_arr K41.1 xD_120) (fun y63 A63 hy63 ry63 => ?_)
      refine xcps4 (xj_get hy63 ry63 (i := x1) (by omega) (by omega)) (fun v64 ev64 bv64 dv64 => ?_)
      refine xi_iaload (pc' := 137) (v := v64) kc_37_136 rfl A63 (by decide) rfl (xi_in (by omega) (by rw [hy63]; omega)) ev64 ?_
      refine xi_iconst (pc' := 138) (v := 1) kc_37_137 rfl rfl ?_
      by_cases c65 : v64.toInt = 1
      · refine xi_cmf (pc' := 141) kc_37_138 rfl (xc_ne_f (X := v64.toInt) (Y := 1) rfl (by decide) (by omega)) ?_
        refine xi_aload_n (pc' := 142) (x := 115) kc_37_141 rfl rfl ?_
        refine xi_getfield (pc' := 145) (v := .ref 119) kc_37_142 rfl rfl rfl A55 rfl ?_
        refine xi_iload_n (pc' := 146) (x := x1) kc_37_145 rfl rfl ?_
        refine xcps4 (xk_arr K41.1 xD_119) (fun y66 A66 hy66 ry66 => ?_)
        refine xcps4 (xj_get hy66 ry66 (i := x1) (by omega) (by omega)) (fun v67 ev67 bv67 dv67 => ?_)
        refine xi_iaload (pc' := 147) (v := v67) kc_37_146 rfl A66 (by decide) rfl (xi_in (by omega) (by rw [hy66]; omega)) ev67 ?_
        refine xi_goto (pc' := 151) kc_37_147 rfl ?_
        refine xcps2 (α := Int32) ((v62 : Int32) + v67) (fun v68 ev68 => ?_)
        have rv68 := xc_rng v68
        refine xi_iadd (pc' := 152) (v := v68) kc_37_151 rfl ev68 ?_
        refine xcps2 (α := Int32) ((v60 : Int32) * v68) (fun v69 ev69 => ?_)
        have rv69 := xc_rng v69
        refine xi_imul (pc' := 153) (v := v69) kc_37_152 rfl ev69 ?_
        refine xi_bipush (pc' := 155) (v := 100) kc_37_153 rfl rfl ?_
        refine xcps2 (α := Int32) (v69 / 100) (fun v70 ev70 => ?_)
        have dv70 : 100 * v70.toInt ≤ v69.toInt + 99 ∧ v69.toInt ≤ 100 * v70.toInt + 99 := by rw [← ev70]; exact xz_div (X := v69.toInt) (Y := 100) rfl (by decide) (by decide)
        have bv70 : -21474837 ≤ v70.toInt ∧ v70.toInt ≤ 21474837 := by omega
        refine xi_idiv (pc' := 156) (v := v70) kc_37_155 rfl ev70 (by decide) ?_
        refine xcps2 (α := Int32) (r16 - v70) (fun v71 ev71 => ?_)
        have zv71 : v71.toInt = (r16.toInt + (-1) * v70.toInt) := by rw [← ev71]; exact (xz_sub (X := r16.toInt) (Y := v70.toInt) rfl rfl (by omega) (by omega)).trans (by omega)
        refine xi_isub (pc' := 157) (v := v71) kc_37_156 rfl ev71 ?_
        refine xi_static (mj := 39) (as := [.int v71]) (st1 := []) (lv0 := [(0, .int v71)]) kc_37_157 rfl rfl (Nat.le_of_ble_eq_true rfl) rfl rfl (Nat.le_of_ble_eq_true rfl) (hJ _ _ _ _ (by decide)) (xm_le ml_39 rfl) rfl ?_
        refine mt_39_0 hJ hov1 hov2 (d := d + 1) (x0 := v71) K41.1 (fun r72 hh73 br72 K74 => ?_)
        have K75 := xk_tr K41 K74 rfl
        refine xp_115 K75.1 (fun u76 u77 u78 u79 u80 u81 u82 u83 u84 u85 u86 u87 u88 bu76 bu77 bu78 bu79 bu80 bu81 bu82 bu83 bu84 bu85 bu86 bu87 bu88 A89 => ?_)
        have e90 : u2 = u77 := xk_eqi (q := 1) K74 rfl A55 A89 rfl rfl
        subst e90
        have e91 : u5 = u80 := xk_eqi (q := 23) K74 rfl A55 A89 rfl rfl
        subst e91
        show xw J ov (d + 3) 37 (160, [(6, .int v59), (5, .int r16), (0, .ref 115), (1, .int x1), (2, .int x2), (3, .int x3), (4, .int x4)], [.int r72], hh73) _
        refine xi_istore (pc' := 162) (lv' := [(5, .int r72), (6, .int v59), (0, .ref 115), (1, .int x1), (2, .int x2), (3, .int x3), (4, .int x4)]) kc_37_160 rfl rfl (xm_lt ml_37 rfl) ?_
        refine xi_aload_n (pc' := 163) (x := 115) kc_37_162 rfl rfl ?_
        refine xi_getfield (pc' := 166) (v := .ref 116) kc_37_163 rfl rfl rfl A89 rfl ?_
        refine xi_iload_n (pc' := 167) (x := x1) kc_37_166 rfl rfl ?_
        refine xcps4 (xk_arr K75.1 xD_116) (fun y92 A92 hy92 ry92 => ?_)
        refine xcps4 (xj_get hy92 ry92 (i := x1) (by omega) (by omega)) (fun v93 ev93 bv93 dv93 => ?_)
        refine xi_iaload (pc' := 168) (v := v93) kc_37_167 rfl A92 (by decide) rfl (xi_in (by omega) (by rw [hy92]; omega)) ev93 ?_
        refine xi_aload_n (pc' := 169) (x := 115) kc_37_168 rfl rfl ?_
        refine xi_getfield (pc' := 172) (v := .ref 117) kc_37_169 rfl rfl rfl A89 rfl ?_
        refine xi_iload_n (pc' := 173) (x := x1) kc_37_172 rfl rfl ?_
        refine xcps4 (xk_arr K75.1 xD_117) (fun y94 A94 hy94 ry94 => ?_)
        refine xcps4 (xj_get hy94 ry94 (i := x1) (by omega) (by omega)) (fun v95 ev95 bv95 dv95 => ?_)
        refine xi_iaload (pc' := 174) (v := v95) kc_37_173 rfl A94 (by decide) rfl (xi_in (by omega) (by rw [hy94]; omega)) ev95 ?_
        refine xi_static (mj := 22) (as := [.int v95]) (st1 := [.int v93]) (lv0 := [(0, .int v95)]) kc_37_174 rfl rfl (Nat.le_of_ble_eq_true rfl) rfl rfl (Nat.le_of_ble_eq_true rfl) (hJ _ _ _ _ (by decide)) (xm_le ml_22 rfl) rfl ?_
        refine mt_22_0 hJ hov1 hov2 (d := d + 1) (x0 := v95) K75.1 (fun r96 hh97 br96 K98 => ?_)
        have K99 := xk_tr K75 K98 rfl
        refine xp_115 K99.1 (fun u100 u101 u102 u103 u104 u105 u106 u107 u108 u109 u110 u111 u112 bu100 bu101 bu102 bu103 bu104 bu105 bu106 bu107 bu108 bu109 bu110 bu111 bu112 A113 => ?_)
        have e114 : u2 = u101 := xk_eqi (q := 1) K98 rfl A89 A113 rfl rfl
        subst e114
        have e115 : u5 = u104 := xk_eqi (q := 23) K98 rfl A89 A113 rfl rfl
        subst e115
        show xw J ov (d + 3) 37 (177, [(5, .int r72), (6, .int v59), (0, .ref 115), (1, .int x1), (2, .int x2), (3, .int x3), (4, .int x4)], [.int r96, .int v93], hh97) _
        refine xcps2 (α := Int32) ((v93 : Int32) * r96) (fun v116 ev116 => ?_)
        have rv116 := xc_rng v116
        refine xi_imul (pc' := 178) (v := v116) kc_37_177 rfl ev116 ?_
        refine xi_istore (pc' := 180) (lv' := [(7, .int v116), (5, .int r72), (6, .int v59), (0, .ref 115), (1, .int x1), (2, .int x2), (3, .int x3), (4, .int x4)]) kc_37_178 rfl rfl (xm_lt ml_37 rfl) ?_
        refine xi_iload (pc' := 182) (x := r72) kc_37_180 rfl rfl ?_
        refine xi_iload (pc' := 184) (x := v116) kc_37_182 rfl rfl ?_
        by_cases c117 : r72.toInt ≤ v116.toInt
        · refine xi_cmt (pc' := 195) kc_37_184 rfl (xc_le_t (X := r72.toInt) (Y := v116.toInt) rfl rfl (by omega)) ?_
          refine xi_iconst (pc' := 196) (v := 0) kc_37_195 rfl rfl ?_
          refine xi_istore (pc' := 198) (lv' := [(8, .int 0), (7, .int v116), (5, .int r72), (6, .int v59), (0, .ref 115), (1, .int x1), (2, .int x2), (3, .int x3), (4, .int x4)]) kc_37_196 rfl rfl (xm_lt ml_37 rfl) ?_
          refine xi_aload_n (pc' := 199) (x := 115) kc_37_198 rfl rfl ?_
          refine xi_getfield (pc' := 202) (v := .ref 141) kc_37_199 rfl rfl rfl A113 rfl ?_
          refine xi_iload_n (pc' := 203) (x := x1) kc_37_202 rfl rfl ?_
          refine xi_iload (pc' := 205) (x := r72) kc_37_203 rfl rfl ?_
          refine xi_iload (pc' := 207) (x := 0) kc_37_205 rfl rfl ?_
          refine xcps2 (α := Int32) (r72 - 0) (fun v118 ev118 => ?_)
          have zv118 : v118.toInt = r72.toInt := by rw [← ev118]; exact (xz_sub (X := r72.toInt) (Y := 0) rfl (by decide) (by omega) (by omega)).trans (by omega)
          refine xi_isub (pc' := 208) (v := v118) kc_37_207 rfl ev118 ?_
          refine xcps4 (xk_arr K99.1 xD_141) (fun y119 A119 hy119 ry119 => ?_)
          refine xcps4 (xj_set (v := v118) hy119 ry119 x1 (by first | omega | decide) (by first | omega | decide)) (fun y120 s120 hy120 ry120 => ?_)
          refine xi_iastore (pc' := 209) (x' := y120) kc_37_208 rfl A119 rfl (xi_in (by omega) (by rw [hy119]; omega)) s120 (fun hh120 eh120 => ?_)
          have K121 := xk_pa K99 (xk_wa rfl) xD_141 hy120 ry120 eh120
          refine xi_iload (pc' := 211) (x := 0) kc_37_209 rfl rfl ?_
          refine xi_ift (pc' := 221) kc_37_211 rfl rfl ?_
          refine xi_return kc_37_221 mr_37 ?_
          exact kk hh120 K121
        · refine xi_cmf (pc' := 187) kc_37_184 rfl (xc_le_f (X := r72.toInt) (Y := v116.toInt) rfl rfl (by omega)) ?_
          refine xi_iload (pc' := 189) (x := r72) kc_37_187 rfl rfl ?_
          refine xi_iload (pc' := 191) (x := v116) kc_37_189 rfl rfl ?_
          refine xcps2 (α := Int32) ((r72 : Int32) - v116) (fun v122 ev122 => ?_)
          have rv122 := xc_rng v122
          refine xi_isub (pc' := 192) (v := v122) kc_37_191 rfl ev122 ?_
          refine xi_goto (pc' := 196) kc_37_192 rfl ?_
          refine xi_istore (pc' := 198) (lv' := [(8, .int v122), (7, .int v116), (5, .int r72), (6, .int v59), (0, .ref 115), (1, .int x1), (2, .int x2), (3, .int x3), (4, .int x4)]) kc_37_196 rfl rfl (xm_lt ml_37 rfl) ?_
          refine xi_aload_n (pc' := 199) (x := 115) kc_37_198 rfl rfl ?_
          refine xi_getfield (pc' := 202) (v := .ref 141) kc_37_199 rfl rfl rfl A113 rfl ?_
          refine xi_iload_n (pc' := 203) (x := x1) kc_37_202 rfl rfl ?_
          refine xi_iload (pc' := 205) (x := r72) kc_37_203 rfl rfl ?_
          refine xi_iload (pc' := 207) (x := v122) kc_37_205 rfl rfl ?_
          refine xcps2 (α := Int32) ((r72 : Int32) - v122) (fun v123 ev123 => ?_)
          have rv123 := xc_rng v123
          refine xi_isub (pc' := 208) (v := v123) kc_37_207 rfl ev123 ?_
          refine xcps4 (xk_arr K99.1 xD_141) (fun y124 A124 hy124 ry124 => ?_)
          refine xcps4 (xj_set (v := v123) hy124 ry124 x1 (by first | omega | decide) (by first | omega | decide)) (fun y125 s125 hy125 ry125 => ?_)
          refine xi_iastore (pc' := 209) (x' := y125) kc_37_208 rfl A124 rfl (xi_in (by omega) (by rw [hy124]; omega)) s125 (fun hh125 eh125 => ?_)
          have K126 := xk_pa K99 (xk_wa rfl) xD_141 hy125 ry125 eh125
          refine xi_iload (pc' := 211) (x := v122) kc_37_209 rfl rfl ?_
          by_cases c127 : v122.toInt ≤ 0
          · refine xi_ift (pc' := 221) kc_37_211 rfl (xc_le_t (X := v122.toInt) (Y := 0) rfl (by decide) (by omega)) ?_
            refine xi_return kc_37_221 mr_37 ?_
            exact kk hh125 K126
          · refine xi_iff (pc' := 214) kc_37_211 rfl (xc_le_f (X := v122.toInt) (Y := 0) rfl (by decide) (by omega)) ?_
            refine xi_aload_n (pc' := 215) (x := 115) kc_37_214 rfl rfl ?_
            refine xi_iload_n (pc' := 216) (x := x1) kc_37_215 rfl rfl ?_
            refine xi_iload (pc' := 218) (x := v122) kc_37_216 rfl rfl ?_
            have A128 := ((eh125.2.1 115 (by decide)).trans A113)
            refine xi_virtual (mj := 40) (as := [.int x1, .int v122]) (st1 := []) (lv0 := [(0, .ref 115), (1, .int x1), (2, .int v122)]) kc_37_218 rfl rfl rfl rfl rfl A128 (Nat.le_of_ble_eq_true rfl) (hJ _ _ _ _ (by decide)) (xm_le ml_40 rfl) rfl ?_
            refine mt_40_0 hJ hov1 hov2 (d := d) (x1 := x1) (x2 := v122) K126.1 (by first | omega | decide) (by first | omega | decide) (fun hh130 K131 => ?_)
            have K132 := xk_tr K126 K131 rfl
            refine xp_115 K132.1 (fun u133 u134 u135 u136 u137 u138 u139 u140 u141 u142 u143 u144 u145 bu133 bu134 bu135 bu136 bu137 bu138 bu139 bu140 bu141 bu142 bu143 bu144 bu145 A146 => ?_)
            have e147 : u2 = u134 := xk_eqi (q := 1) K131 rfl A128 A146 rfl rfl
            subst e147
            have e148 : u5 = u137 := xk_eqi (q := 23) K131 rfl A128 A146 rfl rfl
            subst e148
            show xw J ov (d + 3) 37 (221, [(8, .int v122), (7, .int v116), (5, .int r72), (6, .int v59), (0, .ref 115), (1, .int x1), (2, .int x2), (3, .int x3), (4, .int x4)], [], hh130) _
            refine xi_return kc_37_221 mr_37 ?_
            exact kk hh130 K132
      · refine xi_cmt (pc' := 150) kc_37_138 rfl (xc_ne_t (X := v64.toInt) (Y := 1) rfl (by decide) (by omega)) ?_
        refine xi_iconst (pc' := 151) (v := 0) kc_37_150 rfl rfl ?_
        refine xcps2 (α := Int32) (v62 + 0) (fun v149 ev149 => ?_)
        have zv149 : v149.toInt = v62.toInt := by rw [← ev149]; exact (xz_add (X := v62.toInt) (Y := 0) rfl (by decide) (by omega) (by omega)).trans (by omega)
        refine xi_iadd (pc' := 152) (v := v149) kc_37_151 rfl ev149 ?_
        refine xcps2 (α := Int32) ((v60 : Int32) * v149) (fun v150 ev150 => ?_)
        have rv150 := xc_rng v150
        refine xi_imul (pc' := 153) (v := v150) kc_37_152 rfl ev150 ?_
        refine xi_bipush (pc' := 155) (v := 100) kc_37_153 rfl rfl ?_
        refine xcps2 (α := Int32) (v150 / 100) (fun v151 ev151 => ?_)
        have dv151 : 100 * v151.toInt ≤ v150.toInt + 99 ∧ v150.toInt ≤ 100 * v151.toInt + 99 := by rw [← ev151]; exact xz_div (X := v150.toInt) (Y := 100) rfl (by decide) (by decide)
        have bv151 : -21474837 ≤ v151.toInt ∧ v151.toInt ≤ 21474837 := by omega
        refine xi_idiv (pc' := 156) (v := v151) kc_37_155 rfl ev151 (by decide) ?_
        refine xcps2 (α := Int32) (r16 - v151) (fun v152 ev152 => ?_)
        have zv152 : v152.toInt = (r16.toInt + (-1) * v151.toInt) := by rw [← ev152]; exact (xz_sub (X := r16.toInt) (Y := v151.toInt) rfl rfl (by omega) (by omega)).trans (by omega)
        refine xi_isub (pc' := 157) (v := v152) kc_37_156 rfl ev152 ?_
        refine xi_static (mj := 39) (as := [.int v152]) (st1 := []) (lv0 := [(0, .int v152)]) kc_37_157 rfl rfl (Nat.le_of_ble_eq_true rfl) rfl rfl (Nat.le_of_ble_eq_true rfl) (hJ _ _ _ _ (by decide)) (xm_le ml_39 rfl) rfl ?_
        refine mt_39_0 hJ hov1 hov2 (d := d + 1) (x0 := v152) K41.1 (fun r153 hh154 br153 K155 => ?_)
        have K156 := xk_tr K41 K155 rfl
        refine xp_115 K156.1 (fun u157 u158 u159 u160 u161 u162 u163 u164 u165 u166 u167 u168 u169 bu157 bu158 bu159 bu160 bu161 bu162 bu163 bu164 bu165 bu166 bu167 bu168 bu169 A170 => ?_)
        have e171 : u2 = u158 := xk_eqi (q := 1) K155 rfl A55 A170 rfl rfl
        subst e171
        have e172 : u5 = u161 := xk_eqi (q := 23) K155 rfl A55 A170 rfl rfl
        subst e172
        show xw J ov (d + 3) 37 (160, [(6, .int v59), (5, .int r16), (0, .ref 115), (1, .int x1), (2, .int x2), (3, .int x3), (4, .int x4)], [.int r153], hh154) _
        refine xi_istore (pc' := 162) (lv' := [(5, .int r153), (6, .int v59), (0, .ref 115), (1, .int x1), (2, .int x2), (3, .int x3), (4, .int x4)]) kc_37_160 rfl rfl (xm_lt ml_37 rfl) ?_
        refine xi_aload_n (pc' := 163) (x := 115) kc_37_162 rfl rfl ?_
        refine xi_getfield (pc' := 166) (v := .ref 116) kc_37_163 rfl rfl rfl A170 rfl ?_
        refine xi_iload_n (pc' := 167) (x := x1) kc_37_166 rfl rfl ?_
        refine xcps4 (xk_arr K156.1 xD_116) (fun y173 A173 hy173 ry173 => ?_)
        refine xcps4 (xj_get hy173 ry173 (i := x1) (by omega) (by omega)) (fun v174 ev174 bv174 dv174 => ?_)
        refine xi_iaload (pc' := 168) (v := v174) kc_37_167 rfl A173 (by decide) rfl (xi_in (by omega) (by rw [hy173]; omega)) ev174 ?_
        refine xi_aload_n (pc' := 169) (x := 115) kc_37_168 rfl rfl ?_
        refine xi_getfield (pc' := 172) (v := .ref 117) kc_37_169 rfl rfl rfl A170 rfl ?_
        refine xi_iload_n (pc' := 173) (x := x1) kc_37_172 rfl rfl ?_
        refine xcps4 (xk_arr K156.1 xD_117) (fun y175 A175 hy175 ry175 => ?_)
        refine xcps4 (xj_get hy175 ry175 (i := x1) (by omega) (by omega)) (fun v176 ev176 bv176 dv176 => ?_)
        refine xi_iaload (pc' := 174) (v := v176) kc_37_173 rfl A175 (by decide) rfl (xi_in (by omega) (by rw [hy175]; omega)) ev176 ?_
        refine xi_static (mj := 22) (as := [.int v176]) (st1 := [.int v174]) (lv0 := [(0, .int v176)]) kc_37_174 rfl rfl (Nat.le_of_ble_eq_true rfl) rfl rfl (Nat.le_of_ble_eq_true rfl) (hJ _ _ _ _ (by decide)) (xm_le ml_22 rfl) rfl ?_
        refine mt_22_0 hJ hov1 hov2 (d := d + 1) (x0 := v176) K156.1 (fun r177 hh178 br177 K179 => ?_)
        have K180 := xk_tr K156 K179 rfl
        refine xp_115 K180.1 (fun u181 u182 u183 u184 u185 u186 u187 u188 u189 u190 u191 u192 u193 bu181 bu182 bu183 bu184 bu185 bu186 bu187 bu188 bu189 bu190 bu191 bu192 bu193 A194 => ?_)
        have e195 : u2 = u182 := xk_eqi (q := 1) K179 rfl A170 A194 rfl rfl
        subst e195
        have e196 : u5 = u185 := xk_eqi (q := 23) K179 rfl A170 A194 rfl rfl
        subst e196
        show xw J ov (d + 3) 37 (177, [(5, .int r153), (6, .int v59), (0, .ref 115), (1, .int x1), (2, .int x2), (3, .int x3), (4, .int x4)], [.int r177, .int v174], hh178) _
        refine xcps2 (α := Int32) ((v174 : Int32) * r177) (fun v197 ev197 => ?_)
        have rv197 := xc_rng v197
        refine xi_imul (pc' := 178) (v := v197) kc_37_177 rfl ev197 ?_
        refine xi_istore (pc' := 180) (lv' := [(7, .int v197), (5, .int r153), (6, .int v59), (0, .ref 115), (1, .int x1), (2, .int x2), (3, .int x3), (4, .int x4)]) kc_37_178 rfl rfl (xm_lt ml_37 rfl) ?_
        refine xi_iload (pc' := 182) (x := r153) kc_37_180 rfl rfl ?_
        refine xi_iload (pc' := 184) (x := v197) kc_37_182 rfl rfl ?_
        by_cases c198 : r153.toInt ≤ v197.toInt
        · refine xi_cmt (pc' := 195) kc_37_184 rfl (xc_le_t (X := r153.toInt) (Y := v197.toInt) rfl rfl (by omega)) ?_
          refine xi_iconst (pc' := 196) (v := 0) kc_37_195 rfl rfl ?_
          refine xi_istore (pc' := 198) (lv' := [(8, .int 0), (7, .int v197), (5, .int r153), (6, .int v59), (0, .ref 115), (1, .int x1), (2, .int x2), (3, .int x3), (4, .int x4)]) kc_37_196 rfl rfl (xm_lt ml_37 rfl) ?_
          refine xi_aload_n (pc' := 199) (x := 115) kc_37_198 rfl rfl ?_
          refine xi_getfield (pc' := 202) (v := .ref 141) kc_37_199 rfl rfl rfl A194 rfl ?_
          refine xi_iload_n (pc' := 203) (x := x1) kc_37_202 rfl rfl ?_
          refine xi_iload (pc' := 205) (x := r153) kc_37_203 rfl rfl ?_
          refine xi_iload (pc' := 207) (x := 0) kc_37_205 rfl rfl ?_
          refine xcps2 (α := Int32) (r153 - 0) (fun v199 ev199 => ?_)
          have zv199 : v199.toInt = r153.toInt := by rw [← ev199]; exact (xz_sub (X := r153.toInt) (Y := 0) rfl (by decide) (by omega) (by omega)).trans (by omega)
          refine xi_isub (pc' := 208) (v := v199) kc_37_207 rfl ev199 ?_
          refine xcps4 (xk_arr K180.1 xD_141) (fun y200 A200 hy200 ry200 => ?_)
          refine xcps4 (xj_set (v := v199) hy200 ry200 x1 (by first | omega | decide) (by first | omega | decide)) (fun y201 s201 hy201 ry201 => ?_)
          refine xi_iastore (pc' := 209) (x' := y201) kc_37_208 rfl A200 rfl (xi_in (by omega) (by rw [hy200]; omega)) s201 (fun hh201 eh201 => ?_)
          have K202 := xk_pa K180 (xk_wa rfl) xD_141 hy201 ry201 eh201
          refine xi_iload (pc' := 211) (x := 0) kc_37_209 rfl rfl ?_
          refine xi_ift (pc' := 221) kc_37_211 rfl rfl ?_
          refine xi_return kc_37_221 mr_37 ?_
          exact kk hh201 K202
        · refine xi_cmf (pc' := 187) kc_37_184 rfl (xc_le_f (X := r153.toInt) (Y := v197.toInt) rfl rfl (by omega)) ?_
          refine xi_iload (pc' := 189) (x := r153) kc_37_187 rfl rfl ?_
          refine xi_iload (pc' := 191) (x := v197) kc_37_189 rfl rfl ?_
          refine xcps2 (α := Int32) ((r153 : Int32) - v197) (fun v203 ev203 => ?_)
          have rv203 := xc_rng v203
          refine xi_isub (pc' := 192) (v := v203) kc_37_191 rfl ev203 ?_
          refine xi_goto (pc' := 196) kc_37_192 rfl ?_
          refine xi_istore (pc' := 198) (lv' := [(8, .int v203), (7, .int v197), (5, .int r153), (6, .int v59), (0, .ref 115), (1, .int x1), (2, .int x2), (3, .int x3), (4, .int x4)]) kc_37_196 rfl rfl (xm_lt ml_37 rfl) ?_
          refine xi_aload_n (pc' := 199) (x := 115) kc_37_198 rfl rfl ?_
          refine xi_getfield (pc' := 202) (v := .ref 141) kc_37_199 rfl rfl rfl A194 rfl ?_
          refine xi_iload_n (pc' := 203) (x := x1) kc_37_202 rfl rfl ?_
          refine xi_iload (pc' := 205) (x := r153) kc_37_203 rfl rfl ?_
          refine xi_iload (pc' := 207) (x := v203) kc_37_205 rfl rfl ?_
          refine xcps2 (α := Int32) ((r153 : Int32) - v203) (fun v204 ev204 => ?_)
          have rv204 := xc_rng v204
          refine xi_isub (pc' := 208) (v := v204) kc_37_207 rfl ev204 ?_
          refine xcps4 (xk_arr K180.1 xD_141) (fun y205 A205 hy205 ry205 => ?_)
          refine xcps4 (xj_set (v := v204) hy205 ry205 x1 (by first | omega | decide) (by first | omega | decide)) (fun y206 s206 hy206 ry206 => ?_)
          refine xi_iastore (pc' := 209) (x' := y206) kc_37_208 rfl A205 rfl (xi_in (by omega) (by rw [hy205]; omega)) s206 (fun hh206 eh206 => ?_)
          have K207 := xk_pa K180 (xk_wa rfl) xD_141 hy206 ry206 eh206
          refine xi_iload (pc' := 211) (x := v203) kc_37_209 rfl rfl ?_
          by_cases c208 : v203.toInt ≤ 0
          · refine xi_ift (pc' := 221) kc_37_211 rfl (xc_le_t (X := v203.toInt) (Y := 0) rfl (by decide) (by omega)) ?_
            refine xi_return kc_37_221 mr_37 ?_
            exact kk hh206 K207
          · refine xi_iff (pc' := 214) kc_37_211 rfl (xc_le_f (X := v203.toInt) (Y := 0) rfl (by decide) (by omega)) ?_
            refine xi_aload_n (pc' := 215) (x := 115) kc_37_214 rfl rfl ?_
            refine xi_iload_n (pc' := 216) (x := x1) kc_37_215 rfl rfl ?_
            refine xi_iload (pc' := 218) (x := v203) kc_37_216 rfl rfl ?_
            have A209 := ((eh206.2.1 115 (by decide)).trans A194)
            refine xi_virtual (mj := 40) (as := [.int x1, .int v203]) (st1 := []) (lv0 := [(0, .ref 115), (1, .int x1), (2, .int v203)]) kc_37_218 rfl rfl rfl rfl rfl A209 (Nat.le_of_ble_eq_true rfl) (hJ _ _ _ _ (by decide)) (xm_le ml_40 rfl) rfl ?_
            refine mt_40_0 hJ hov1 hov2 (d := d) (x1 := x1) (x2 := v203) K207.1 (by first | omega | decide) (by first | omega | decide) (fun hh211 K212 => ?_)
            have K213 := xk_tr K207 K212 rfl
            refine xp_115 K213.1 (fun u214 u215 u216 u217 u218 u219 u220 u221 u222 u223 u224 u225 u226 bu214 bu215 bu216 bu217 bu218 bu219 bu220 bu221 bu222 bu223 bu224 bu225 bu226 A227 => ?_)
            have e228 : u2 = u215 := xk_eqi (q := 1) K212 rfl A209 A227 rfl rfl
            subst e228
            have e229 : u5 = u218 := xk_eqi (q := 23) K212 rfl A209 A227 rfl rfl
            subst e229
            show xw J ov (d + 3) 37 (221, [(8, .int v203), (7, .int v197), (5, .int r153), (6, .int v59), (0, .ref 115), (1, .int x1), (2, .int x2), (3, .int x3), (4, .int x4)], [], hh211) _
            refine xi_return kc_37_221 mr_37 ?_
            exact kk hh211 K213
    · refine xi_cmf (pc' := 36) kc_37_33 rfl (xc_ge_f (X := x6.toInt) (Y := u5.toInt) rfl rfl (by omega)) ?_
      refine xi_iload (pc' := 38) (x := x5) kc_37_36 rfl rfl ?_
      refine xi_aload_n (pc' := 39) (x := 115) kc_37_38 rfl rfl ?_
      refine xi_getfield (pc' := 42) (v := .ref 135) kc_37_39 rfl rfl rfl A14 rfl ?_
      refine xi_iload (pc' := 44) (x := x6) kc_37_42 rfl rfl ?_
      refine xcps4 (xk_arr K.1 xD_135) (fun y230 A230 hy230 ry230 => ?_)
      refine xcps4 (xj_get hy230 ry230 (i := x6) (by omega) (by omega)) (fun v231 ev231 bv231 dv231 => ?_)
      refine xi_iaload (pc' := 45) (v := v231) kc_37_44 rfl A230 (by decide) rfl (xi_in (by omega) (by rw [hy230]; omega)) ev231 ?_
      refine xi_iconst (pc' := 46) (v := 3) kc_37_45 rfl rfl ?_
      by_cases c232 : v231.toInt = 3
      · refine xi_cmf (pc' := 49) kc_37_46 rfl (xc_ne_f (X := v231.toInt) (Y := 3) rfl (by decide) (by omega)) ?_
        refine xi_aload_n (pc' := 50) (x := 115) kc_37_49 rfl rfl ?_
        refine xi_getfield (pc' := 53) (v := .ref 136) kc_37_50 rfl rfl rfl A14 rfl ?_
        refine xi_iload (pc' := 55) (x := x6) kc_37_53 rfl rfl ?_
        refine xcps4 (xk_arr K.1 xD_136) (fun y233 A233 hy233 ry233 => ?_)
        refine xcps4 (xj_get hy233 ry233 (i := x6) (by omega) (by omega)) (fun v234 ev234 bv234 dv234 => ?_)
        refine xi_iaload (pc' := 56) (v := v234) kc_37_55 rfl A233 (by decide) rfl (xi_in (by omega) (by rw [hy233]; omega)) ev234 ?_
        refine xi_iload_n (pc' := 57) (x := x1) kc_37_56 rfl rfl ?_
        by_cases c235 : v234.toInt = x1.toInt
        · refine xi_cmf (pc' := 60) kc_37_57 rfl (xc_ne_f (X := v234.toInt) (Y := x1.toInt) rfl rfl (by omega)) ?_
          refine xi_aload_n (pc' := 61) (x := 115) kc_37_60 rfl rfl ?_
          refine xi_iload (pc' := 63) (x := x6) kc_37_61 rfl rfl ?_
          refine xi_iload_n (pc' := 64) (x := x2) kc_37_63 rfl rfl ?_
          refine xi_iload_n (pc' := 65) (x := x3) kc_37_64 rfl rfl ?_
          refine xi_iload (pc' := 67) (x := x4) kc_37_65 rfl rfl ?_
          refine xi_virtual (mj := 38) (as := [.int x6, .int x2, .int x3, .int x4]) (st1 := [.int x5]) (lv0 := [(0, .ref 115), (1, .int x6), (2, .int x2), (3, .int x3), (4, .int x4)]) kc_37_67 rfl rfl rfl rfl rfl A14 (Nat.le_of_ble_eq_true rfl) (hJ _ _ _ _ (by decide)) (xm_le ml_38 rfl) rfl ?_
          refine mt_38_0 hJ hov1 hov2 (d := d + 1) (x1 := x6) (x2 := x2) (x3 := x3) (x4 := x4) K.1 (by first | omega | decide) (by first | omega | decide) (by first | omega | decide) (by first | omega | decide) (fun r236 hh237 br236 K238 => ?_)
          have K239 := xk_tr K K238 rfl
          refine xp_115 K239.1 (fun u240 u241 u242 u243 u244 u245 u246 u247 u248 u249 u250 u251 u252 bu240 bu241 bu242 bu243 bu244 bu245 bu246 bu247 bu248 bu249 bu250 bu251 bu252 A253 => ?_)
          have e254 : u2 = u241 := xk_eqi (q := 1) K238 rfl A14 A253 rfl rfl
          subst e254
          have e255 : u5 = u244 := xk_eqi (q := 23) K238 rfl A14 A253 rfl rfl
          subst e255
          show xw J ov (d + 3) 37 (70, [(0, .ref 115), (1, .int x1), (2, .int x2), (3, .int x3), (4, .int x4), (5, .int x5), (6, .int x6)], [.int r236, .int x5], hh237) _
          by_cases c256 : r236.toInt = 0
          · refine xi_ift (pc' := 83) kc_37_70 rfl (xc_eq_t (X := r236.toInt) (Y := 0) rfl (by decide) (by omega)) ?_
            refine xi_iconst (pc' := 84) (v := 0) kc_37_83 rfl rfl ?_
            refine xcps2 (α := Int32) (x5 + 0) (fun v257 ev257 => ?_)
            have zv257 : v257.toInt = x5.toInt := by rw [← ev257]; exact (xz_add (X := x5.toInt) (Y := 0) rfl (by decide) (by omega) (by omega)).trans (by omega)
            refine xi_iadd (pc' := 85) (v := v257) kc_37_84 rfl ev257 ?_
            refine xi_istore (pc' := 87) (lv' := [(5, .int v257), (0, .ref 115), (1, .int x1), (2, .int x2), (3, .int x3), (4, .int x4), (6, .int x6)]) kc_37_85 rfl rfl (xm_lt ml_37 rfl) ?_
            refine xcps2 (α := Int32) (x6 + 1) (fun v258 ev258 => ?_)
            have zv258 : v258.toInt = (x6.toInt + 1) := by rw [← ev258]; exact (xz_add (X := x6.toInt) (Y := 1) rfl (by decide) (by omega) (by omega)).trans (by omega)
            refine xi_iinc (pc' := 90) (x := x6) (v := v258) (lv' := [(6, .int v258), (5, .int v257), (0, .ref 115), (1, .int x1), (2, .int x2), (3, .int x3), (4, .int x4)]) kc_37_87 rfl rfl ev258 rfl (xm_lt ml_37 rfl) ?_
            refine xi_goto (pc' := 27) kc_37_90 rfl ?_
            refine xw_lv (b := [(0, .ref 115), (1, .int x1), (2, .int x2), (3, .int x3), (4, .int x4), (5, .int v257), (6, .int v258)]) (lvS_cons (lvS_cons (lvS_cons (lvS_cons (lvS_cons (lvS_cons (lvS_cons (lvS_nil (show ([6, 5, 0, 1, 2, 3, 4] : List Nat).Nodup by decide)) rfl) rfl) rfl) rfl) rfl) rfl) rfl) ?_
            exact i0 x1 x2 x3 x4 v257 v258 hh237 (by omega) (by omega) (by omega) (by omega) (by omega) K239 (by omega)
          · refine xi_iff (pc' := 73) kc_37_70 rfl (xc_eq_f (X := r236.toInt) (Y := 0) rfl (by decide) (by omega)) ?_
            refine xi_aload_n (pc' := 74) (x := 115) kc_37_73 rfl rfl ?_
            refine xi_getfield (pc' := 77) (v := .ref 137) kc_37_74 rfl rfl rfl A253 rfl ?_
            refine xi_iload (pc' := 79) (x := x6) kc_37_77 rfl rfl ?_
            refine xcps4 (xk_arr K239.1 xD_137) (fun y259 A259 hy259 ry259 => ?_)
            refine xcps4 (xj_get hy259 ry259 (i := x6) (by omega) (by omega)) (fun v260 ev260 bv260 dv260 => ?_)
            refine xi_iaload (pc' := 80) (v := v260) kc_37_79 rfl A259 (by decide) rfl (xi_in (by omega) (by rw [hy259]; omega)) ev260 ?_
            refine xi_goto (pc' := 84) kc_37_80 rfl ?_
            refine xcps2 (α := Int32) ((x5 : Int32) + v260) (fun v261 ev261 => ?_)
            have rv261 := xc_rng v261
            refine xi_iadd (pc' := 85) (v := v261) kc_37_84 rfl ev261 ?_
            refine xi_istore (pc' := 87) (lv' := [(5, .int v261), (0, .ref 115), (1, .int x1), (2, .int x2), (3, .int x3), (4, .int x4), (6, .int x6)]) kc_37_85 rfl rfl (xm_lt ml_37 rfl) ?_
            refine xcps2 (α := Int32) (x6 + 1) (fun v262 ev262 => ?_)
            have zv262 : v262.toInt = (x6.toInt + 1) := by rw [← ev262]; exact (xz_add (X := x6.toInt) (Y := 1) rfl (by decide) (by omega) (by omega)).trans (by omega)
            refine xi_iinc (pc' := 90) (x := x6) (v := v262) (lv' := [(6, .int v262), (5, .int v261), (0, .ref 115), (1, .int x1), (2, .int x2), (3, .int x3), (4, .int x4)]) kc_37_87 rfl rfl ev262 rfl (xm_lt ml_37 rfl) ?_
            refine xi_goto (pc' := 27) kc_37_90 rfl ?_
            refine xw_lv (b := [(0, .ref 115), (1, .int x1), (2, .int x2), (3, .int x3), (4, .int x4), (5, .int v261), (6, .int v262)]) (lvS_cons (lvS_cons (lvS_cons (lvS_cons (lvS_cons (lvS_cons (lvS_cons (lvS_nil (show ([6, 5, 0, 1, 2, 3, 4] : List Nat).Nodup by decide)) rfl) rfl) rfl) rfl) rfl) rfl) rfl) ?_
            exact i0 x1 x2 x3 x4 v261 v262 hh237 (by omega) (by omega) (by omega) (by omega) (by omega) K239 (by omega)
        · refine xi_cmt (pc' := 83) kc_37_57 rfl (xc_ne_t (X := v234.toInt) (Y := x1.toInt) rfl rfl (by omega)) ?_
          refine xi_iconst (pc' := 84) (v := 0) kc_37_83 rfl rfl ?_
          refine xcps2 (α := Int32) (x5 + 0) (fun v263 ev263 => ?_)
          have zv263 : v263.toInt = x5.toInt := by rw [← ev263]; exact (xz_add (X := x5.toInt) (Y := 0) rfl (by decide) (by omega) (by omega)).trans (by omega)
          refine xi_iadd (pc' := 85) (v := v263) kc_37_84 rfl ev263 ?_
          refine xi_istore (pc' := 87) (lv' := [(5, .int v263), (0, .ref 115), (1, .int x1), (2, .int x2), (3, .int x3), (4, .int x4), (6, .int x6)]) kc_37_85 rfl rfl (xm_lt ml_37 rfl) ?_
          refine xcps2 (α := Int32) (x6 + 1) (fun v264 ev264 => ?_)
          have zv264 : v264.toInt = (x6.toInt + 1) := by rw [← ev264]; exact (xz_add (X := x6.toInt) (Y := 1) rfl (by decide) (by omega) (by omega)).trans (by omega)
          refine xi_iinc (pc' := 90) (x := x6) (v := v264) (lv' := [(6, .int v264), (5, .int v263), (0, .ref 115), (1, .int x1), (2, .int x2), (3, .int x3), (4, .int x4)]) kc_37_87 rfl rfl ev264 rfl (xm_lt ml_37 rfl) ?_
          refine xi_goto (pc' := 27) kc_37_90 rfl ?_
          refine xw_lv (b := [(0, .ref 115), (1, .int x1), (2, .int x2), (3, .int x3), (4, .int x4), (5, .int v263), (6, .int v264)]) (lvS_cons (lvS_cons (lvS_cons (lvS_cons (lvS_cons (lvS_cons (lvS_cons (lvS_nil (show ([6, 5, 0, 1, 2, 3, 4] : List Nat).Nodup by decide)) rfl) rfl) rfl) rfl) rfl) rfl) rfl) ?_
          exact i0 x1 x2 x3 x4 v263 v264 h (by omega) (by omega) (by omega) (by omega) (by omega) K (by omega)
      · refine xi_cmt (pc' := 83) kc_37_46 rfl (xc_ne_t (X := v231.toInt) (Y := 3) rfl (by decide) (by omega)) ?_
        refine xi_iconst (pc' := 84) (v := 0) kc_37_83 rfl rfl ?_
        refine xcps2 (α := Int32) (x5 + 0) (fun v265 ev265 => ?_)
        have zv265 : v265.toInt = x5.toInt := by rw [← ev265]; exact (xz_add (X := x5.toInt) (Y := 0) rfl (by decide) (by omega) (by omega)).trans (by omega)
        refine xi_iadd (pc' := 85) (v := v265) kc_37_84 rfl ev265 ?_
        refine xi_istore (pc' := 87) (lv' := [(5, .int v265), (0, .ref 115), (1, .int x1), (2, .int x2), (3, .int x3), (4, .int x4), (6, .int x6)]) kc_37_85 rfl rfl (xm_lt ml_37 rfl) ?_
        refine xcps2 (α := Int32) (x6 + 1) (fun v266 ev266 => ?_)
        have zv266 : v266.toInt = (x6.toInt + 1) := by rw [← ev266]; exact (xz_add (X := x6.toInt) (Y := 1) rfl (by decide) (by omega) (by omega)).trans (by omega)
        refine xi_iinc (pc' := 90) (x := x6) (v := v266) (lv' := [(6, .int v266), (5, .int v265), (0, .ref 115), (1, .int x1), (2, .int x2), (3, .int x3), (4, .int x4)]) kc_37_87 rfl rfl ev266 rfl (xm_lt ml_37 rfl) ?_
        refine xi_goto (pc' := 27) kc_37_90 rfl ?_
        refine xw_lv (b := [(0, .ref 115), (1, .int x1), (2, .int x2), (3, .int x3), (4, .int x4), (5, .int v265), (6, .int v266)]) (lvS_cons (lvS_cons (lvS_cons (lvS_cons (lvS_cons (lvS_cons (lvS_cons (lvS_nil (show ([6, 5, 0, 1, 2, 3, 4] : List Nat).Nodup by decide)) rfl) rfl) rfl) rfl) rfl) rfl) rfl) ?_
        exact i0 x1 x2 x3 x4 v265 v266 h (by omega) (by omega) (by omega) (by omega) (by omega) K (by omega)
set_option maxHeartbeats 4000000 in
theorem mt_37_0 {J : xe_J} {ov : List (List Int32)} (hJ : ∀ d mj as h, mj ≠ xe_loff → J d mj as h = none) (hov1 : ov[1]? = some [10, 0, 0, 0, 0, 0]) (hov2 : ov[2]? = some [99, 30, 50, 50, 1, 99999]) {d : Nat} {Q : Option Value → xe_H → Prop} {h : xe_H} {x1 : Int32} {x2 : Int32} {x3 : Int32} {x4 : Int32} (T : xt h) (b1 : (0 ≤ x1.toInt ∧ x1.toInt ≤ 5)) (b2 : (0 ≤ x2.toInt ∧ x2.toInt ≤ 63)) (b3 : (0 ≤ x3.toInt ∧ x3.toInt ≤ 1)) (b4 : (0 ≤ x4.toInt ∧ x4.toInt ≤ 599)) (kk : (∀ h' : xe_H, xk [(0, 9), (115, 1), (83, 0), (29, 0), (31, 0), (33, 0), (35, 0), (37, 0), (39, 0), (41, 0), (43, 0), (45, 0), (47, 0), (49, 0), (51, 0), (125, 0), (29, 2), (31, 2), (33, 2), (35, 2), (37, 2), (39, 2), (41, 2), (43, 2), (45, 2), (47, 2), (49, 2), (51, 2), (127, 0), (1, 5), (115, 23)] h h' → Q none h')) : xw J ov (d + 3) 37 (0, [(0, .ref 115), (1, .int x1), (2, .int x2), (3, .int x3), (4, .int x4)], [], h) Q := by
  have K : xk [(0, 9), (115, 1), (83, 0), (29, 0), (31, 0), (33, 0), (35, 0), (37, 0), (39, 0), (41, 0), (43, 0), (45, 0), (47, 0), (49, 0), (51, 0), (125, 0), (29, 2), (31, 2), (33, 2), (35, 2), (37, 2), (39, 2), (41, 2), (43, 2), (45, 2), (47, 2), (49, 2), (51, 2), (127, 0), (1, 5), (115, 23)] h h := xk_re T
  refine xi_aload_n (pc' := 1) (x := 115) kc_37_0 rfl rfl ?_
  refine xp_115 K.1 (fun u1 u2 u3 u4 u5 u6 u7 u8 u9 u10 u11 u12 u13 bu1 bu2 bu3 bu4 bu5 bu6 bu7 bu8 bu9 bu10 bu11 bu12 bu13 A14 => ?_)
  refine xi_getfield (pc' := 4) (v := .ref 141) kc_37_1 rfl rfl rfl A14 rfl ?_
  refine xi_iload_n (pc' := 5) (x := x1) kc_37_4 rfl rfl ?_
  refine xcps4 (xk_arr K.1 xD_141) (fun y15 A15 hy15 ry15 => ?_)
  refine xcps4 (xj_get hy15 ry15 (i := x1) (by omega) (by omega)) (fun v16 ev16 bv16 dv16 => ?_)
  refine xi_iaload (pc' := 6) (v := v16) kc_37_5 rfl A15 (by decide) rfl (xi_in (by omega) (by rw [hy15]; omega)) ev16 ?_
  refine xi_aload_n (pc' := 7) (x := 115) kc_37_6 rfl rfl ?_
  refine xi_getfield (pc' := 10) (v := .ref 122) kc_37_7 rfl rfl rfl A14 rfl ?_
  refine xi_bipush (pc' := 12) (v := 24) kc_37_10 rfl rfl ?_
  refine xi_iload_n (pc' := 13) (x := x1) kc_37_12 rfl rfl ?_
  refine xcps2 (α := Int32) (24 * x1) (fun v17 ev17 => ?_)
  have zv17 : v17.toInt = (24) * x1.toInt := by rw [← ev17]; exact (xz_mul (X := 24) (Y := x1.toInt) (by decide) rfl (by omega) (by omega)).trans (by omega)
  refine xi_imul (pc' := 14) (v := v17) kc_37_13 rfl ev17 ?_
  refine xi_iload (pc' := 16) (x := x4) kc_37_14 rfl rfl ?_
  refine xi_bipush (pc' := 18) (v := 24) kc_37_16 rfl rfl ?_
  refine xcps2 (α := Int32) (x4 - x4 / 24 * 24) (fun v18 ev18 => ?_)
  have dv18 : v18.toInt = x4.toInt % 24 := by rw [← ev18]; exact xz_reme (X := x4.toInt) (Y := 24) rfl (by decide) (by omega) (by decide)
  have bv18 : 0 ≤ v18.toInt ∧ v18.toInt ≤ 23 := by omega
  refine xi_irem (pc' := 19) (v := v18) kc_37_18 rfl ev18 (by decide) ?_
  refine xcps2 (α := Int32) (v17 + v18) (fun v19 ev19 => ?_)
  have zv19 : v19.toInt = ((24) * x1.toInt + v18.toInt) := by rw [← ev19]; exact (xz_add (X := (24) * x1.toInt) (Y := v18.toInt) zv17 rfl (by omega) (by omega)).trans (by omega)
  refine xi_iadd (pc' := 20) (v := v19) kc_37_19 rfl ev19 ?_
  refine xcps4 (xk_arr K.1 xD_122) (fun y20 A20 hy20 ry20 => ?_)
  refine xcps4 (xj_get hy20 ry20 (i := v19) (by rw [zv19]; omega) (by rw [zv19]; omega)) (fun v21 ev21 bv21 dv21 => ?_)
  refine xi_iaload (pc' := 21) (v := v21) kc_37_20 rfl A20 (by decide) rfl (xi_in (by rw [zv19]; omega) (by rw [hy20]; rw [zv19]; omega)) ev21 ?_
  refine xcps2 (α := Int32) ((v16 : Int32) + v21) (fun v22 ev22 => ?_)
  have rv22 := xc_rng v22
  refine xi_iadd (pc' := 22) (v := v22) kc_37_21 rfl ev22 ?_
  refine xi_istore (pc' := 24) (lv' := [(5, .int v22), (0, .ref 115), (1, .int x1), (2, .int x2), (3, .int x3), (4, .int x4)]) kc_37_22 rfl rfl (xm_lt ml_37 rfl) ?_
  refine xi_iconst (pc' := 25) (v := 0) kc_37_24 rfl rfl ?_
  refine xi_istore (pc' := 27) (lv' := [(6, .int 0), (5, .int v22), (0, .ref 115), (1, .int x1), (2, .int x2), (3, .int x3), (4, .int x4)]) kc_37_25 rfl rfl (xm_lt ml_37 rfl) ?_
  have zc0 : (0 : Int32).toInt = 0 := by decide
  refine xw_lv (b := [(0, .ref 115), (1, .int x1), (2, .int x2), (3, .int x3), (4, .int x4), (5, .int v22), (6, .int 0)]) (lvS_cons (lvS_cons (lvS_cons (lvS_cons (lvS_cons (lvS_cons (lvS_cons (lvS_nil (show ([6, 5, 0, 1, 2, 3, 4] : List Nat).Nodup by decide)) rfl) rfl) rfl) rfl) rfl) rfl) rfl) ?_
  exact (lp_37_0 hJ hov1 hov2 (d := d) (hb := h) (fun h9 K9 => kk h9 (xk_tr K K9 rfl)) 11) x1 x2 x3 x4 v22 0 h (by omega) (by omega) (by omega) (by omega) (by omega) (xk_re K.1) (by omega)
set_option maxHeartbeats 4000000 in
theorem lp_36_0 {J : xe_J} {ov : List (List Int32)} (hJ : ∀ d mj as h, mj ≠ xe_loff → J d mj as h = none) (hov1 : ov[1]? = some [10, 0, 0, 0, 0, 0]) (hov2 : ov[2]? = some [99, 30, 50, 50, 1, 99999]) {d : Nat} {Q : Option Value → xe_H → Prop} {hb : xe_H} (kk : (∀ h' : xe_H, xk [(0, 9), (115, 1), (83, 0), (29, 0), (31, 0), (33, 0), (35, 0), (37, 0), (39, 0), (41, 0), (43, 0), (45, 0), (47, 0), (49, 0), (51, 0), (125, 0), (29, 2), (31, 2), (33, 2), (35, 2), (37, 2), (39, 2), (41, 2), (43, 2), (45, 2), (47, 2), (49, 2), (51, 2), (127, 0), (1, 5), (115, 23)] hb h' → Q none h')) : ∀ m : Nat, (∀ (x1 : Int32) (x2 : Int32) (x3 : Int32) (x4 : Int32) (h : xe_H), (0 ≤ x1.toInt ∧ x1.toInt ≤ 63) → (0 ≤ x2.toInt ∧ x2.toInt ≤ 1) → (0 ≤ x3.toInt ∧ x3.toInt ≤ 599) → (0 ≤ x4.toInt ∧ x4.toInt ≤ 6) → xk [(0, 9), (115, 1), (83, 0), (29, 0), (31, 0), (33, 0), (35, 0), (37, 0), (39, 0), (41, 0), (43, 0), (45, 0), (47, 0), (49, 0), (51, 0), (125, 0), (29, 2), (31, 2), (33, 2), (35, 2), (37, 2), (39, 2), (41, 2), (43, 2), (45, 2), (47, 2), (49, 2), (51, 2), (127, 0), (1, 5), (115, 23)] hb h → (-1) * x4.toInt + 30 < (m : Int) → xw J ov (d + 4) 36 (3, [(0, .ref 115), (1, .int x1), (2, .int x2), (3, .int x3), (4, .int x4)], [], h) Q) ∧ (∀ (x1 : Int32) (x2 : Int32) (x3 : Int32) (x4 : Int32) (h : xe_H), (0 ≤ x1.toInt ∧ x1.toInt ≤ 63) → (0 ≤ x2.toInt ∧ x2.toInt ≤ 1) → (0 ≤ x3.toInt ∧ x3.toInt ≤ 599) → (0 ≤ x4.toInt ∧ x4.toInt ≤ 10) → xk [(0, 9), (115, 1), (83, 0), (29, 0), (31, 0), (33, 0), (35, 0), (37, 0), (39, 0), (41, 0), (43, 0), (45, 0), (47, 0), (49, 0), (51, 0), (125, 0), (29, 2), (31, 2), (33, 2), (35, 2), (37, 2), (39, 2), (41, 2), (43, 2), (45, 2), (47, 2), (49, 2), (51, 2), (127, 0), (1, 5), (115, 23)] hb h → (-1) * x4.toInt + 23 < (m : Int) → xw J ov (d + 4) 36 (28, [(0, .ref 115), (1, .int x1), (2, .int x2), (3, .int x3), (4, .int x4)], [], h) Q) ∧ (∀ (x4 : Int32) (h : xe_H), (0 ≤ x4.toInt ∧ x4.toInt ≤ 12) → xk [(0, 9), (115, 1), (83, 0), (29, 0), (31, 0), (33, 0), (35, 0), (37, 0), (39, 0), (41, 0), (43, 0), (45, 0), (47, 0), (49, 0), (51, 0), (125, 0), (29, 2), (31, 2), (33, 2), (35, 2), (37, 2), (39, 2), (41, 2), (43, 2), (45, 2), (47, 2), (49, 2), (51, 2), (127, 0), (1, 5), (115, 23)] hb h → (-1) * x4.toInt + 12 < (m : Int) → xw J ov (d + 4) 36 (157, [(0, .ref 115), (4, .int x4)], [], h) Q) := by
  intro m
  induction m with
  | zero =>
    refine ⟨?_, ?_, ?_⟩
    · intro x1 x2 x3 x4 h b1 b2 b3 b4 K hm; exfalso; omega
    · intro x1 x2 x3 x4 h b1 b2 b3 b4 K hm; exfalso; omega
    · intro x4 h b4 K hm; exfalso; omega
  | succ m ih =>
    obtain ⟨i0, i1, i2⟩ := ih
    refine ⟨?_, ?_, ?_⟩
    · intro x1 x2 x3 x4 h b1 b2 b3 b4 K hm
      refine xi_iload (pc' := 5) (x := x4) kc_36_3 rfl rfl ?_
      refine xi_bipush (pc' := 7) (v := 6) kc_36_5 rfl rfl ?_
      by_cases c1 : 6 ≤ x4.toInt
      · refine xi_cmt (pc' := 25) kc_36_7 rfl (xc_ge_t (X := x4.toInt) (Y := 6) rfl (by decide) (by omega)) ?_
        refine xi_iconst (pc' := 26) (v := 0) kc_36_25 rfl rfl ?_
        refine xi_istore (pc' := 28) (lv' := [(4, .int 0), (0, .ref 115), (1, .int x1), (2, .int x2), (3, .int x3)]) kc_36_26 rfl rfl (xm_lt ml_36 rfl) ?_
        have zc0 : (0 : Int32).toInt = 0 := by decide
        refine xw_lv (b := [(0, .ref 115), (1, .int x1), (2, .int x2), (3, .int x3), (4, .int 0)]) (lvS_cons (lvS_cons (lvS_cons (lvS_cons (lvS_cons (lvS_nil (show ([4, 0, 1, 2, 3] : List Nat).Nodup by decide)) rfl) rfl) rfl) rfl) rfl) ?_
        exact i1 x1 x2 x3 0 h (by omega) (by omega) (by omega) (by omega) K (by omega)
      · refine xi_cmf (pc' := 10) kc_36_7 rfl (xc_ge_f (X := x4.toInt) (Y := 6) rfl (by decide) (by omega)) ?_
        refine xi_aload_n (pc' := 11) (x := 115) kc_36_10 rfl rfl ?_
        refine xi_iload (pc' := 13) (x := x4) kc_36_11 rfl rfl ?_
        refine xi_iload_n (pc' := 14) (x := x1) kc_36_13 rfl rfl ?_
        refine xi_iload_n (pc' := 15) (x := x2) kc_36_14 rfl rfl ?_
        refine xi_iload_n (pc' := 16) (x := x3) kc_36_15 rfl rfl ?_
        refine xp_115 K.1 (fun u2 u3 u4 u5 u6 u7 u8 u9 u10 u11 u12 u13 u14 bu2 bu3 bu4 bu5 bu6 bu7 bu8 bu9 bu10 bu11 bu12 bu13 bu14 A15 => ?_)
        refine xi_virtual (mj := 37) (as := [.int x4, .int x1, .int x2, .int x3]) (st1 := []) (lv0 := [(0, .ref 115), (1, .int x4), (2, .int x1), (3, .int x2), (4, .int x3)]) kc_36_16 rfl rfl rfl rfl rfl A15 (Nat.le_of_ble_eq_true rfl) (hJ _ _ _ _ (by decide)) (xm_le ml_37 rfl) rfl ?_
        refine mt_37_0 hJ hov1 hov2 (d := d) (x1 := x4) (x2 := x1) (x3 := x2) (x4 := x3) K.1 (by first | omega | decide) (by first | omega | decide) (by first | omega | decide) (by first | omega | decide) (fun hh17 K18 => ?_)
        have K19 := xk_tr K K18 rfl
        refine xp_115 K19.1 (fun u20 u21 u22 u23 u24 u25 u26 u27 u28 u29 u30 u31 u32 bu20 bu21 bu22 bu23 bu24 bu25 bu26 bu27 bu28 bu29 bu30 bu31 bu32 A33 => ?_)
        have e34 : u3 = u21 := xk_eqi (q := 1) K18 rfl A15 A33 rfl rfl
        subst e34
        have e35 : u6 = u24 := xk_eqi (q := 23) K18 rfl A15 A33 rfl rfl
        subst e35
        show xw J ov (d + 4) 36 (19, [(0, .ref 115), (1, .int x1), (2, .int x2), (3, .int x3), (4, .int x4)], [], hh17) _
        refine xcps2 (α := Int32) (x4 + 1) (fun v36 ev36 => ?_)
        have zv36 : v36.toInt = (x4.toInt + 1) := by rw [← ev36]; exact (xz_add (X := x4.toInt) (Y := 1) rfl (by decide) (by omega) (by omega)).trans (by omega)
        refine xi_iinc (pc' := 22) (x := x4) (v := v36) (lv' := [(4, .int v36), (0, .ref 115), (1, .int x1), (2, .int x2), (3, .int x3)]) kc_36_19 rfl rfl ev36 rfl (xm_lt ml_36 rfl) ?_
        refine xi_goto (pc' := 3) kc_36_22 rfl ?_
        refine xw_lv (b := [(0, .ref 115), (1, .int x1), (2, .int x2), (3, .int x3), (4, .int v36)]) (lvS_cons (lvS_cons (lvS_cons (lvS_cons (lvS_cons (lvS_nil (show ([4, 0, 1, 2, 3] : List Nat).Nodup by decide)) rfl) rfl) rfl) rfl) rfl) ?_
        exact i0 x1 x2 x3 v36 hh17 (by omega) (by omega) (by omega) (by omega) K19 (by omega)
    · intro x1 x2 x3 x4 h b1 b2 b3 b4 K hm
      refine xi_iload (pc' := 30) (x := x4) kc_36_28 rfl rfl ?_
      refine xi_aload_n (pc' := 31) (x := 115) kc_36_30 rfl rfl ?_
      refine xp_115 K.1 (fun u1 u2 u3 u4 u5 u6 u7 u8 u9 u10 u11 u12 u13 bu1 bu2 bu3 bu4 bu5 bu6 bu7 bu8 bu9 bu10 bu11 bu12 bu13 A14 => ?_)
      refine xi_getfield (pc' := 34) (v := .int u5) kc_36_31 rfl rfl rfl A14 rfl ?_
      by_cases c15 : u5.toInt ≤ x4.toInt
      · refine xi_cmt (pc' := 154) kc_36_34 rfl (xc_ge_t (X := x4.toInt) (Y := u5.toInt) rfl rfl (by omega)) ?_
        refine xi_iconst (pc' := 155) (v := 0) kc_36_154 rfl rfl ?_
        refine xi_istore (pc' := 157) (lv' := [(4, .int 0), (0, .ref 115), (1, .int x1), (2, .int x2), (3, .int x3)]) kc_36_155 rfl rfl (xm_lt ml_36 rfl) ?_
        have zc0 : (0 : Int32).toInt = 0 := by decide
        refine xw_lv (b := [(0, .ref 115), (4, .int 0)]) (lvS_cons (lvS_cons (lvS_nil (show ([4, 0, 1, 2, 3] : List Nat).Nodup by decide)) rfl) rfl) ?_
        exact i2 0 h (by omega) K (by omega)
      · refine xi_cmf (pc' := 37) kc_36_34 rfl (xc_ge_f (X := x4.toInt) (Y := u5.toInt) rfl rfl (by omega)) ?_
        refine xi_aload_n (pc' := 38) (x := 115) kc_36_37 rfl rfl ?_
        refine xi_getfield (pc' := 41) (v := .ref 135) kc_36_38 rfl rfl rfl A14 rfl ?_
        refine xi_iload (pc' := 43) (x := x4) kc_36_41 rfl rfl ?_
        refine xcps4 (xk_arr K.1 xD_135) (fun y16 A16 hy16 ry16 => ?_)
        refine xcps4 (xj_get hy16 ry16 (i := x4) (by omega) (by omega)) (fun v17 ev17 bv17 dv17 => ?_)
        refine xi_iaload (pc' := 44) (v := v17) kc_36_43 rfl A16 (by decide) rfl (xi_in (by omega) (by rw [hy16]; omega)) ev17 ?_
        refine xi_iconst (pc' := 45) (v := 3) kc_36_44 rfl rfl ?_
        by_cases c18 : 3 ≤ v17.toInt
        · refine xi_cmt (pc' := 148) kc_36_45 rfl (xc_ge_t (X := v17.toInt) (Y := 3) rfl (by decide) (by omega)) ?_
          refine xcps2 (α := Int32) (x4 + 1) (fun v19 ev19 => ?_)
          have zv19 : v19.toInt = (x4.toInt + 1) := by rw [← ev19]; exact (xz_add (X := x4.toInt) (Y := 1) rfl (by decide) (by omega) (by omega)).trans (by omega)
          refine xi_iinc (pc' := 151) (x := x4) (v := v19) (lv' := [(4, .int v19), (0, .ref 115), (1, .int x1), (2, .int x2), (3, .int x3)]) kc_36_148 rfl rfl ev19 rfl (xm_lt ml_36 rfl) ?_
          refine xi_goto (pc' := 28) kc_36_151 rfl ?_
          refine xw_lv (b := [(0, .ref 115), (1, .int x1), (2, .int x2), (3, .int x3), (4, .int v19)]) (lvS_cons (lvS_cons (lvS_cons (lvS_cons (lvS_cons (lvS_nil (show ([4, 0, 1, 2, 3] : List Nat).Nodup by decide)) rfl) rfl) rfl) rfl) rfl) ?_
          exact i1 x1 x2 x3 v19 h (by omega) (by omega) (by omega) (by omega) K (by omega)
        · refine xi_cmf (pc' := 48) kc_36_45 rfl (xc_ge_f (X := v17.toInt) (Y := 3) rfl (by decide) (by omega)) ?_
          refine xi_aload_n (pc' := 49) (x := 115) kc_36_48 rfl rfl ?_
          refine xi_iload (pc' := 51) (x := x4) kc_36_49 rfl rfl ?_
          refine xi_iload_n (pc' := 52) (x := x1) kc_36_51 rfl rfl ?_
          refine xi_iload_n (pc' := 53) (x := x2) kc_36_52 rfl rfl ?_
          refine xi_iload_n (pc' := 54) (x := x3) kc_36_53 rfl rfl ?_
          refine xi_virtual (mj := 38) (as := [.int x4, .int x1, .int x2, .int x3]) (st1 := []) (lv0 := [(0, .ref 115), (1, .int x4), (2, .int x1), (3, .int x2), (4, .int x3)]) kc_36_54 rfl rfl rfl rfl rfl A14 (Nat.le_of_ble_eq_true rfl) (hJ _ _ _ _ (by decide)) (xm_le ml_38 rfl) rfl ?_
          refine mt_38_0 hJ hov1 hov2 (d := d + 2) (x1 := x4) (x2 := x1) (x3 := x2) (x4 := x3) K.1 (by first | omega | decide) (by first | omega | decide) (by first | omega | decide) (by first | omega | decide) (fun r20 hh21 br20 K22 => ?_)
          have K23 := xk_tr K K22 rfl
          refine xp_115 K23.1 (fun u24 u25 u26 u27 u28 u29 u30 u31 u32 u33 u34 u35 u36 bu24 bu25 bu26 bu27 bu28 bu29 bu30 bu31 bu32 bu33 bu34 bu35 bu36 A37 => ?_)
          have e38 : u2 = u25 := xk_eqi (q := 1) K22 rfl A14 A37 rfl rfl
          subst e38
          have e39 : u5 = u28 := xk_eqi (q := 23) K22 rfl A14 A37 rfl rfl
          subst e39
          show xw J ov (d + 4) 36 (57, [(0, .ref 115), (1, .int x1), (2, .int x2), (3, .int x3), (4, .int x4)], [.int r20], hh21) _
          by_cases c40 : r20.toInt = 0
          · refine xi_ift (pc' := 148) kc_36_57 rfl (xc_eq_t (X := r20.toInt) (Y := 0) rfl (by decide) (by omega)) ?_
            refine xcps2 (α := Int32) (x4 + 1) (fun v41 ev41 => ?_)
            have zv41 : v41.toInt = (x4.toInt + 1) := by rw [← ev41]; exact (xz_add (X := x4.toInt) (Y := 1) rfl (by decide) (by omega) (by omega)).trans (by omega)
            refine xi_iinc (pc' := 151) (x := x4) (v := v41) (lv' := [(4, .int v41), (0, .ref 115), (1, .int x1), (2, .int x2), (3, .int x3)]) kc_36_148 rfl rfl ev41 rfl (xm_lt ml_36 rfl) ?_
            refine xi_goto (pc' := 28) kc_36_151 rfl ?_
            refine xw_lv (b := [(0, .ref 115), (1, .int x1), (2, .int x2), (3, .int x3), (4, .int v41)]) (lvS_cons (lvS_cons (lvS_cons (lvS_cons (lvS_cons (lvS_nil (show ([4, 0, 1, 2, 3] : List Nat).Nodup by decide)) rfl) rfl) rfl) rfl) rfl) ?_
            exact i1 x1 x2 x3 v41 hh21 (by omega) (by omega) (by omega) (by omega) K23 (by omega)
          · refine xi_iff (pc' := 60) kc_36_57 rfl (xc_eq_f (X := r20.toInt) (Y := 0) rfl (by decide) (by omega)) ?_
            refine xi_aload_n (pc' := 61) (x := 115) kc_36_60 rfl rfl ?_
            refine xi_getfield (pc' := 64) (v := .ref 135) kc_36_61 rfl rfl rfl A37 rfl ?_
            refine xi_iload (pc' := 66) (x := x4) kc_36_64 rfl rfl ?_
            refine xcps4 (xk_arr K23.1 xD_135) (fun y42 A42 hy42 ry42 => ?_)
            refine xcps4 (xj_get hy42 ry42 (i := x4) (by omega) (by omega)) (fun v43 ev43 bv43 dv43 => ?_)
            refine xi_iaload (pc' := 67) (v := v43) kc_36_66 rfl A42 (by decide) rfl (xi_in (by omega) (by rw [hy42]; omega)) ev43 ?_
            by_cases c44 : v43.toInt = 0
            · refine xi_iff (pc' := 70) kc_36_67 rfl (xc_ne_f (X := v43.toInt) (Y := 0) rfl (by decide) (by omega)) ?_
              refine xi_aload_n (pc' := 71) (x := 115) kc_36_70 rfl rfl ?_
              refine xi_getfield (pc' := 74) (v := .ref 137) kc_36_71 rfl rfl rfl A37 rfl ?_
              refine xi_iload (pc' := 76) (x := x4) kc_36_74 rfl rfl ?_
              refine xcps4 (xk_arr K23.1 xD_137) (fun y45 A45 hy45 ry45 => ?_)
              refine xcps4 (xj_get hy45 ry45 (i := x4) (by omega) (by omega)) (fun v46 ev46 bv46 dv46 => ?_)
              refine xi_iaload (pc' := 77) (v := v46) kc_36_76 rfl A45 (by decide) rfl (xi_in (by omega) (by rw [hy45]; omega)) ev46 ?_
              refine xi_aload_n (pc' := 78) (x := 115) kc_36_77 rfl rfl ?_
              refine xi_getfield (pc' := 81) (v := .int u30) kc_36_78 rfl rfl rfl A37 rfl ?_
              refine xcps2 (α := Int32) ((v46 : Int32) * u30) (fun v47 ev47 => ?_)
              have rv47 := xc_rng v47
              refine xi_imul (pc' := 82) (v := v47) kc_36_81 rfl ev47 ?_
              refine xi_goto (pc' := 116) kc_36_82 rfl ?_
              refine xi_istore (pc' := 118) (lv' := [(5, .int v47), (0, .ref 115), (1, .int x1), (2, .int x2), (3, .int x3), (4, .int x4)]) kc_36_116 rfl rfl (xm_lt ml_36 rfl) ?_
              refine xi_aload_n (pc' := 119) (x := 115) kc_36_118 rfl rfl ?_
              refine xi_getfield (pc' := 122) (v := .ref 142) kc_36_119 rfl rfl rfl A37 rfl ?_
              refine xi_aload_n (pc' := 123) (x := 115) kc_36_122 rfl rfl ?_
              refine xi_getfield (pc' := 126) (v := .ref 136) kc_36_123 rfl rfl rfl A37 rfl ?_
              refine xi_iload (pc' := 128) (x := x4) kc_36_126 rfl rfl ?_
              refine xcps4 (xk_arr K23.1 xD_136) (fun y48 A48 hy48 ry48 => ?_)
              refine xcps4 (xj_get hy48 ry48 (i := x4) (by omega) (by omega)) (fun v49 ev49 bv49 dv49 => ?_)
              refine xi_iaload (pc' := 129) (v := v49) kc_36_128 rfl A48 (by decide) rfl (xi_in (by omega) (by rw [hy48]; omega)) ev49 ?_
              refine xi_aload_n (pc' := 130) (x := 115) kc_36_129 rfl rfl ?_
              refine xi_getfield (pc' := 133) (v := .ref 142) kc_36_130 rfl rfl rfl A37 rfl ?_
              refine xi_aload_n (pc' := 134) (x := 115) kc_36_133 rfl rfl ?_
              refine xi_getfield (pc' := 137) (v := .ref 136) kc_36_134 rfl rfl rfl A37 rfl ?_
              refine xi_iload (pc' := 139) (x := x4) kc_36_137 rfl rfl ?_
              refine xi_iaload (pc' := 140) (v := v49) kc_36_139 rfl A48 (by decide) rfl (xi_in (by omega) (by rw [hy48]; omega)) ev49 ?_
              refine xcps4 (xk_arr K23.1 xD_142) (fun y50 A50 hy50 ry50 => ?_)
              refine xcps4 (xj_get hy50 ry50 (i := v49) (by omega) (by omega)) (fun v51 ev51 bv51 dv51 => ?_)
              refine xi_iaload (pc' := 141) (v := v51) kc_36_140 rfl A50 (by decide) rfl (xi_in (by omega) (by rw [hy50]; omega)) ev51 ?_
              refine xi_iload (pc' := 143) (x := v47) kc_36_141 rfl rfl ?_
              refine xcps2 (α := Int32) ((v51 : Int32) + v47) (fun v52 ev52 => ?_)
              have rv52 := xc_rng v52
              refine xi_iadd (pc' := 144) (v := v52) kc_36_143 rfl ev52 ?_
              refine xi_static (mj := 39) (as := [.int v52]) (st1 := [.int v49, .ref 142]) (lv0 := [(0, .int v52)]) kc_36_144 rfl rfl (Nat.le_of_ble_eq_true rfl) rfl rfl (Nat.le_of_ble_eq_true rfl) (hJ _ _ _ _ (by decide)) (xm_le ml_39 rfl) rfl ?_
              refine mt_39_0 hJ hov1 hov2 (d := d + 2) (x0 := v52) K23.1 (fun r53 hh54 br53 K55 => ?_)
              have K56 := xk_tr K23 K55 rfl
              refine xp_115 K56.1 (fun u57 u58 u59 u60 u61 u62 u63 u64 u65 u66 u67 u68 u69 bu57 bu58 bu59 bu60 bu61 bu62 bu63 bu64 bu65 bu66 bu67 bu68 bu69 A70 => ?_)
              have e71 : u2 = u58 := xk_eqi (q := 1) K55 rfl A37 A70 rfl rfl
              subst e71
              have e72 : u5 = u61 := xk_eqi (q := 23) K55 rfl A37 A70 rfl rfl
              subst e72
              show xw J ov (d + 4) 36 (147, [(5, .int v47), (0, .ref 115), (1, .int x1), (2, .int x2), (3, .int x3), (4, .int x4)], [.int r53, .int v49, .ref 142], hh54) _
              refine xcps4 (xk_arr K56.1 xD_142) (fun y73 A73 hy73 ry73 => ?_)
              refine xcps4 (xj_set (v := r53) hy73 ry73 v49 (by first | omega | decide) (by first | omega | decide)) (fun y74 s74 hy74 ry74 => ?_)
              refine xi_iastore (pc' := 148) (x' := y74) kc_36_147 rfl A73 rfl (xi_in (by omega) (by rw [hy73]; omega)) s74 (fun hh74 eh74 => ?_)
              have K75 := xk_pa K56 (xk_wa rfl) xD_142 hy74 ry74 eh74
              refine xcps2 (α := Int32) (x4 + 1) (fun v76 ev76 => ?_)
              have zv76 : v76.toInt = (x4.toInt + 1) := by rw [← ev76]; exact (xz_add (X := x4.toInt) (Y := 1) rfl (by decide) (by omega) (by omega)).trans (by omega)
              refine xi_iinc (pc' := 151) (x := x4) (v := v76) (lv' := [(4, .int v76), (5, .int v47), (0, .ref 115), (1, .int x1), (2, .int x2), (3, .int x3)]) kc_36_148 rfl rfl ev76 rfl (xm_lt ml_36 rfl) ?_
              refine xi_goto (pc' := 28) kc_36_151 rfl ?_
              refine xw_lv (b := [(0, .ref 115), (1, .int x1), (2, .int x2), (3, .int x3), (4, .int v76)]) (lvS_cons (lvS_cons (lvS_cons (lvS_cons (lvS_cons (lvS_nil (show ([4, 5, 0, 1, 2, 3] : List Nat).Nodup by decide)) rfl) rfl) rfl) rfl) rfl) ?_
              exact i1 x1 x2 x3 v76 hh74 (by omega) (by omega) (by omega) (by omega) K75 (by omega)
            · refine xi_ift (pc' := 85) kc_36_67 rfl (xc_ne_t (X := v43.toInt) (Y := 0) rfl (by decide) (by omega)) ?_
              refine xi_aload_n (pc' := 86) (x := 115) kc_36_85 rfl rfl ?_
              refine xi_getfield (pc' := 89) (v := .ref 135) kc_36_86 rfl rfl rfl A37 rfl ?_
              refine xi_iload (pc' := 91) (x := x4) kc_36_89 rfl rfl ?_
              refine xi_iaload (pc' := 92) (v := v43) kc_36_91 rfl A42 (by decide) rfl (xi_in (by omega) (by rw [hy42]; omega)) ev43 ?_
              refine xi_iconst (pc' := 93) (v := 1) kc_36_92 rfl rfl ?_
              by_cases c77 : v43.toInt = 1
              · refine xi_cmt (pc' := 105) kc_36_93 rfl (xc_eq_t (X := v43.toInt) (Y := 1) rfl (by decide) (by omega)) ?_
                refine xi_aload_n (pc' := 106) (x := 115) kc_36_105 rfl rfl ?_
                refine xi_getfield (pc' := 109) (v := .ref 137) kc_36_106 rfl rfl rfl A37 rfl ?_
                refine xi_iload (pc' := 111) (x := x4) kc_36_109 rfl rfl ?_
                refine xcps4 (xk_arr K23.1 xD_137) (fun y78 A78 hy78 ry78 => ?_)
                refine xcps4 (xj_get hy78 ry78 (i := x4) (by omega) (by omega)) (fun v79 ev79 bv79 dv79 => ?_)
                refine xi_iaload (pc' := 112) (v := v79) kc_36_111 rfl A78 (by decide) rfl (xi_in (by omega) (by rw [hy78]; omega)) ev79 ?_
                refine xi_goto (pc' := 116) kc_36_112 rfl ?_
                refine xi_istore (pc' := 118) (lv' := [(5, .int v79), (0, .ref 115), (1, .int x1), (2, .int x2), (3, .int x3), (4, .int x4)]) kc_36_116 rfl rfl (xm_lt ml_36 rfl) ?_
                refine xi_aload_n (pc' := 119) (x := 115) kc_36_118 rfl rfl ?_
                refine xi_getfield (pc' := 122) (v := .ref 142) kc_36_119 rfl rfl rfl A37 rfl ?_
                refine xi_aload_n (pc' := 123) (x := 115) kc_36_122 rfl rfl ?_
                refine xi_getfield (pc' := 126) (v := .ref 136) kc_36_123 rfl rfl rfl A37 rfl ?_
                refine xi_iload (pc' := 128) (x := x4) kc_36_126 rfl rfl ?_
                refine xcps4 (xk_arr K23.1 xD_136) (fun y80 A80 hy80 ry80 => ?_)
                refine xcps4 (xj_get hy80 ry80 (i := x4) (by omega) (by omega)) (fun v81 ev81 bv81 dv81 => ?_)
                refine xi_iaload (pc' := 129) (v := v81) kc_36_128 rfl A80 (by decide) rfl (xi_in (by omega) (by rw [hy80]; omega)) ev81 ?_
                refine xi_aload_n (pc' := 130) (x := 115) kc_36_129 rfl rfl ?_
                refine xi_getfield (pc' := 133) (v := .ref 142) kc_36_130 rfl rfl rfl A37 rfl ?_
                refine xi_aload_n (pc' := 134) (x := 115) kc_36_133 rfl rfl ?_
                refine xi_getfield (pc' := 137) (v := .ref 136) kc_36_134 rfl rfl rfl A37 rfl ?_
                refine xi_iload (pc' := 139) (x := x4) kc_36_137 rfl rfl ?_
                refine xi_iaload (pc' := 140) (v := v81) kc_36_139 rfl A80 (by decide) rfl (xi_in (by omega) (by rw [hy80]; omega)) ev81 ?_
                refine xcps4 (xk_arr K23.1 xD_142) (fun y82 A82 hy82 ry82 => ?_)
                refine xcps4 (xj_get hy82 ry82 (i := v81) (by omega) (by omega)) (fun v83 ev83 bv83 dv83 => ?_)
                refine xi_iaload (pc' := 141) (v := v83) kc_36_140 rfl A82 (by decide) rfl (xi_in (by omega) (by rw [hy82]; omega)) ev83 ?_
                refine xi_iload (pc' := 143) (x := v79) kc_36_141 rfl rfl ?_
                refine xcps2 (α := Int32) ((v83 : Int32) + v79) (fun v84 ev84 => ?_)
                have rv84 := xc_rng v84
                refine xi_iadd (pc' := 144) (v := v84) kc_36_143 rfl ev84 ?_
                refine xi_static (mj := 39) (as := [.int v84]) (st1 := [.int v81, .ref 142]) (lv0 := [(0, .int v84)]) kc_36_144 rfl rfl (Nat.le_of_ble_eq_true rfl) rfl rfl (Nat.le_of_ble_eq_true rfl) (hJ _ _ _ _ (by decide)) (xm_le ml_39 rfl) rfl ?_
                refine mt_39_0 hJ hov1 hov2 (d := d + 2) (x0 := v84) K23.1 (fun r85 hh86 br85 K87 => ?_)
                have K88 := xk_tr K23 K87 rfl
                refine xp_115 K88.1 (fun u89 u90 u91 u92 u93 u94 u95 u96 u97 u98 u99 u100 u101 bu89 bu90 bu91 bu92 bu93 bu94 bu95 bu96 bu97 bu98 bu99 bu100 bu101 A102 => ?_)
                have e103 : u2 = u90 := xk_eqi (q := 1) K87 rfl A37 A102 rfl rfl
                subst e103
                have e104 : u5 = u93 := xk_eqi (q := 23) K87 rfl A37 A102 rfl rfl
                subst e104
                show xw J ov (d + 4) 36 (147, [(5, .int v79), (0, .ref 115), (1, .int x1), (2, .int x2), (3, .int x3), (4, .int x4)], [.int r85, .int v81, .ref 142], hh86) _
                refine xcps4 (xk_arr K88.1 xD_142) (fun y105 A105 hy105 ry105 => ?_)
                refine xcps4 (xj_set (v := r85) hy105 ry105 v81 (by first | omega | decide) (by first | omega | decide)) (fun y106 s106 hy106 ry106 => ?_)
                refine xi_iastore (pc' := 148) (x' := y106) kc_36_147 rfl A105 rfl (xi_in (by omega) (by rw [hy105]; omega)) s106 (fun hh106 eh106 => ?_)
                have K107 := xk_pa K88 (xk_wa rfl) xD_142 hy106 ry106 eh106
                refine xcps2 (α := Int32) (x4 + 1) (fun v108 ev108 => ?_)
                have zv108 : v108.toInt = (x4.toInt + 1) := by rw [← ev108]; exact (xz_add (X := x4.toInt) (Y := 1) rfl (by decide) (by omega) (by omega)).trans (by omega)
                refine xi_iinc (pc' := 151) (x := x4) (v := v108) (lv' := [(4, .int v108), (5, .int v79), (0, .ref 115), (1, .int x1), (2, .int x2), (3, .int x3)]) kc_36_148 rfl rfl ev108 rfl (xm_lt ml_36 rfl) ?_
                refine xi_goto (pc' := 28) kc_36_151 rfl ?_
                refine xw_lv (b := [(0, .ref 115), (1, .int x1), (2, .int x2), (3, .int x3), (4, .int v108)]) (lvS_cons (lvS_cons (lvS_cons (lvS_cons (lvS_cons (lvS_nil (show ([4, 5, 0, 1, 2, 3] : List Nat).Nodup by decide)) rfl) rfl) rfl) rfl) rfl) ?_
                exact i1 x1 x2 x3 v108 hh106 (by omega) (by omega) (by omega) (by omega) K107 (by omega)
              · refine xi_cmf (pc' := 96) kc_36_93 rfl (xc_eq_f (X := v43.toInt) (Y := 1) rfl (by decide) (by omega)) ?_
                refine xi_iload_n (pc' := 97) (x := x3) kc_36_96 rfl rfl ?_
                refine xi_bipush (pc' := 99) (v := 24) kc_36_97 rfl rfl ?_
                refine xcps2 (α := Int32) (x3 - x3 / 24 * 24) (fun v109 ev109 => ?_)
                have dv109 : v109.toInt = x3.toInt % 24 := by rw [← ev109]; exact xz_reme (X := x3.toInt) (Y := 24) rfl (by decide) (by omega) (by decide)
                have bv109 : 0 ≤ v109.toInt ∧ v109.toInt ≤ 23 := by omega
                refine xi_irem (pc' := 100) (v := v109) kc_36_99 rfl ev109 (by decide) ?_
                refine xi_bipush (pc' := 102) (v := 6) kc_36_100 rfl rfl ?_
                by_cases c110 : 6 ≤ v109.toInt
                · refine xi_cmt (pc' := 115) kc_36_102 rfl (xc_ge_t (X := v109.toInt) (Y := 6) rfl (by decide) (by omega)) ?_
                  refine xi_iconst (pc' := 116) (v := 0) kc_36_115 rfl rfl ?_
                  refine xi_istore (pc' := 118) (lv' := [(5, .int 0), (0, .ref 115), (1, .int x1), (2, .int x2), (3, .int x3), (4, .int x4)]) kc_36_116 rfl rfl (xm_lt ml_36 rfl) ?_
                  refine xi_aload_n (pc' := 119) (x := 115) kc_36_118 rfl rfl ?_
                  refine xi_getfield (pc' := 122) (v := .ref 142) kc_36_119 rfl rfl rfl A37 rfl ?_
                  refine xi_aload_n (pc' := 123) (x := 115) kc_36_122 rfl rfl ?_
                  refine xi_getfield (pc' := 126) (v := .ref 136) kc_36_123 rfl rfl rfl A37 rfl ?_
                  refine xi_iload (pc' := 128) (x := x4) kc_36_126 rfl rfl ?_
                  refine xcps4 (xk_arr K23.1 xD_136) (fun y111 A111 hy111 ry111 => ?_)
                  refine xcps4 (xj_get hy111 ry111 (i := x4) (by omega) (by omega)) (fun v112 ev112 bv112 dv112 => ?_)
                  refine xi_iaload (pc' := 129) (v := v112) kc_36_128 rfl A111 (by decide) rfl (xi_in (by omega) (by rw [hy111]; omega)) ev112 ?_
                  refine xi_aload_n (pc' := 130) (x := 115) kc_36_129 rfl rfl ?_
                  refine xi_getfield (pc' := 133) (v := .ref 142) kc_36_130 rfl rfl rfl A37 rfl ?_
                  refine xi_aload_n (pc' := 134) (x := 115) kc_36_133 rfl rfl ?_
                  refine xi_getfield (pc' := 137) (v := .ref 136) kc_36_134 rfl rfl rfl A37 rfl ?_
                  refine xi_iload (pc' := 139) (x := x4) kc_36_137 rfl rfl ?_
                  refine xi_iaload (pc' := 140) (v := v112) kc_36_139 rfl A111 (by decide) rfl (xi_in (by omega) (by rw [hy111]; omega)) ev112 ?_
                  refine xcps4 (xk_arr K23.1 xD_142) (fun y113 A113 hy113 ry113 => ?_)
                  refine xcps4 (xj_get hy113 ry113 (i := v112) (by omega) (by omega)) (fun v114 ev114 bv114 dv114 => ?_)
                  refine xi_iaload (pc' := 141) (v := v114) kc_36_140 rfl A113 (by decide) rfl (xi_in (by omega) (by rw [hy113]; omega)) ev114 ?_
                  refine xi_iload (pc' := 143) (x := 0) kc_36_141 rfl rfl ?_
                  refine xcps2 (α := Int32) (v114 + 0) (fun v115 ev115 => ?_)
                  have zv115 : v115.toInt = v114.toInt := by rw [← ev115]; exact (xz_add (X := v114.toInt) (Y := 0) rfl (by decide) (by omega) (by omega)).trans (by omega)
                  refine xi_iadd (pc' := 144) (v := v115) kc_36_143 rfl ev115 ?_
                  refine xi_static (mj := 39) (as := [.int v115]) (st1 := [.int v112, .ref 142]) (lv0 := [(0, .int v115)]) kc_36_144 rfl rfl (Nat.le_of_ble_eq_true rfl) rfl rfl (Nat.le_of_ble_eq_true rfl) (hJ _ _ _ _ (by decide)) (xm_le ml_39 rfl) rfl ?_
                  refine mt_39_0 hJ hov1 hov2 (d := d + 2) (x0 := v115) K23.1 (fun r116 hh117 br116 K118 => ?_)
                  have K119 := xk_tr K23 K118 rfl
                  refine xp_115 K119.1 (fun u120 u121 u122 u123 u124 u125 u126 u127 u128 u129 u130 u131 u132 bu120 bu121 bu122 bu123 bu124 bu125 bu126 bu127 bu128 bu129 bu130 bu131 bu132 A133 => ?_)
                  have e134 : u2 = u121 := xk_eqi (q := 1) K118 rfl A37 A133 rfl rfl
                  subst e134
                  have e135 : u5 = u124 := xk_eqi (q := 23) K118 rfl A37 A133 rfl rfl
                  subst e135
                  show xw J ov (d + 4) 36 (147, [(5, .int 0), (0, .ref 115), (1, .int x1), (2, .int x2), (3, .int x3), (4, .int x4)], [.int r116, .int v112, .ref 142], hh117) _
                  refine xcps4 (xk_arr K119.1 xD_142) (fun y136 A136 hy136 ry136 => ?_)
                  refine xcps4 (xj_set (v := r116) hy136 ry136 v112 (by first | omega | decide) (by first | omega | decide)) (fun y137 s137 hy137 ry137 => ?_)
                  refine xi_iastore (pc' := 148) (x' := y137) kc_36_147 rfl A136 rfl (xi_in (by omega) (by rw [hy136]; omega)) s137 (fun hh137 eh137 => ?_)
                  have K138 := xk_pa K119 (xk_wa rfl) xD_142 hy137 ry137 eh137
                  refine xcps2 (α := Int32) (x4 + 1) (fun v139 ev139 => ?_)
                  have zv139 : v139.toInt = (x4.toInt + 1) := by rw [← ev139]; exact (xz_add (X := x4.toInt) (Y := 1) rfl (by decide) (by omega) (by omega)).trans (by omega)
                  refine xi_iinc (pc' := 151) (x := x4) (v := v139) (lv' := [(4, .int v139), (5, .int 0), (0, .ref 115), (1, .int x1), (2, .int x2), (3, .int x3)]) kc_36_148 rfl rfl ev139 rfl (xm_lt ml_36 rfl) ?_
                  refine xi_goto (pc' := 28) kc_36_151 rfl ?_
                  refine xw_lv (b := [(0, .ref 115), (1, .int x1), (2, .int x2), (3, .int x3), (4, .int v139)]) (lvS_cons (lvS_cons (lvS_cons (lvS_cons (lvS_cons (lvS_nil (show ([4, 5, 0, 1, 2, 3] : List Nat).Nodup by decide)) rfl) rfl) rfl) rfl) rfl) ?_
                  exact i1 x1 x2 x3 v139 hh137 (by omega) (by omega) (by omega) (by omega) K138 (by omega)
                · refine xi_cmf (pc' := 105) kc_36_102 rfl (xc_ge_f (X := v109.toInt) (Y := 6) rfl (by decide) (by omega)) ?_
                  refine xi_aload_n (pc' := 106) (x := 115) kc_36_105 rfl rfl ?_
                  refine xi_getfield (pc' := 109) (v := .ref 137) kc_36_106 rfl rfl rfl A37 rfl ?_
                  refine xi_iload (pc' := 111) (x := x4) kc_36_109 rfl rfl ?_
                  refine xcps4 (xk_arr K23.1 xD_137) (fun y140 A140 hy140 ry140 => ?_)
                  refine xcps4 (xj_get hy140 ry140 (i := x4) (by omega) (by omega)) (fun v141 ev141 bv141 dv141 => ?_)
                  refine xi_iaload (pc' := 112) (v := v141) kc_36_111 rfl A140 (by decide) rfl (xi_in (by omega) (by rw [hy140]; omega)) ev141 ?_
                  refine xi_goto (pc' := 116) kc_36_112 rfl ?_
                  refine xi_istore (pc' := 118) (lv' := [(5, .int v141), (0, .ref 115), (1, .int x1), (2, .int x2), (3, .int x3), (4, .int x4)]) kc_36_116 rfl rfl (xm_lt ml_36 rfl) ?_
                  refine xi_aload_n (pc' := 119) (x := 115) kc_36_118 rfl rfl ?_
                  refine xi_getfield (pc' := 122) (v := .ref 142) kc_36_119 rfl rfl rfl A37 rfl ?_
                  refine xi_aload_n (pc' := 123) (x := 115) kc_36_122 rfl rfl ?_
                  refine xi_getfield (pc' := 126) (v := .ref 136) kc_36_123 rfl rfl rfl A37 rfl ?_
                  refine xi_iload (pc' := 128) (x := x4) kc_36_126 rfl rfl ?_
                  refine xcps4 (xk_arr K23.1 xD_136) (fun y142 A142 hy142 ry142 => ?_)
                  refine xcps4 (xj_get hy142 ry142 (i := x4) (by omega) (by omega)) (fun v143 ev143 bv143 dv143 => ?_)
                  refine xi_iaload (pc' := 129) (v := v143) kc_36_128 rfl A142 (by decide) rfl (xi_in (by omega) (by rw [hy142]; omega)) ev143 ?_
                  refine xi_aload_n (pc' := 130) (x := 115) kc_36_129 rfl rfl ?_
                  refine xi_getfield (pc' := 133) (v := .ref 142) kc_36_130 rfl rfl rfl A37 rfl ?_
                  refine xi_aload_n (pc' := 134) (x := 115) kc_36_133 rfl rfl ?_
                  refine xi_getfield (pc' := 137) (v := .ref 136) kc_36_134 rfl rfl rfl A37 rfl ?_
                  refine xi_iload (pc' := 139) (x := x4) kc_36_137 rfl rfl ?_
                  refine xi_iaload (pc' := 140) (v := v143) kc_36_139 rfl A142 (by decide) rfl (xi_in (by omega) (by rw [hy142]; omega)) ev143 ?_
                  refine xcps4 (xk_arr K23.1 xD_142) (fun y144 A144 hy144 ry144 => ?_)
                  refine xcps4 (xj_get hy144 ry144 (i := v143) (by omega) (by omega)) (fun v145 ev145 bv145 dv145 => ?_)
                  refine xi_iaload (pc' := 141) (v := v145) kc_36_140 rfl A144 (by decide) rfl (xi_in (by omega) (by rw [hy144]; omega)) ev145 ?_
                  refine xi_iload (pc' := 143) (x := v141) kc_36_141 rfl rfl ?_
                  refine xcps2 (α := Int32) ((v145 : Int32) + v141) (fun v146 ev146 => ?_)
                  have rv146 := xc_rng v146
                  refine xi_iadd (pc' := 144) (v := v146) kc_36_143 rfl ev146 ?_
                  refine xi_static (mj := 39) (as := [.int v146]) (st1 := [.int v143, .ref 142]) (lv0 := [(0, .int v146)]) kc_36_144 rfl rfl (Nat.le_of_ble_eq_true rfl) rfl rfl (Nat.le_of_ble_eq_true rfl) (hJ _ _ _ _ (by decide)) (xm_le ml_39 rfl) rfl ?_
                  refine mt_39_0 hJ hov1 hov2 (d := d + 2) (x0 := v146) K23.1 (fun r147 hh148 br147 K149 => ?_)
                  have K150 := xk_tr K23 K149 rfl
                  refine xp_115 K150.1 (fun u151 u152 u153 u154 u155 u156 u157 u158 u159 u160 u161 u162 u163 bu151 bu152 bu153 bu154 bu155 bu156 bu157 bu158 bu159 bu160 bu161 bu162 bu163 A164 => ?_)
                  have e165 : u2 = u152 := xk_eqi (q := 1) K149 rfl A37 A164 rfl rfl
                  subst e165
                  have e166 : u5 = u155 := xk_eqi (q := 23) K149 rfl A37 A164 rfl rfl
                  subst e166
                  show xw J ov (d + 4) 36 (147, [(5, .int v141), (0, .ref 115), (1, .int x1), (2, .int x2), (3, .int x3), (4, .int x4)], [.int r147, .int v143, .ref 142], hh148) _
                  refine xcps4 (xk_arr K150.1 xD_142) (fun y167 A167 hy167 ry167 => ?_)
                  refine xcps4 (xj_set (v := r147) hy167 ry167 v143 (by first | omega | decide) (by first | omega | decide)) (fun y168 s168 hy168 ry168 => ?_)
                  refine xi_iastore (pc' := 148) (x' := y168) kc_36_147 rfl A167 rfl (xi_in (by omega) (by rw [hy167]; omega)) s168 (fun hh168 eh168 => ?_)
                  have K169 := xk_pa K150 (xk_wa rfl) xD_142 hy168 ry168 eh168
                  refine xcps2 (α := Int32) (x4 + 1) (fun v170 ev170 => ?_)
                  have zv170 : v170.toInt = (x4.toInt + 1) := by rw [← ev170]; exact (xz_add (X := x4.toInt) (Y := 1) rfl (by decide) (by omega) (by omega)).trans (by omega)
                  refine xi_iinc (pc' := 151) (x := x4) (v := v170) (lv' := [(4, .int v170), (5, .int v141), (0, .ref 115), (1, .int x1), (2, .int x2), (3, .int x3)]) kc_36_148 rfl rfl ev170 rfl (xm_lt ml_36 rfl) ?_
                  refine xi_goto (pc' := 28) kc_36_151 rfl ?_
                  refine xw_lv (b := [(0, .ref 115), (1, .int x1), (2, .int x2), (3, .int x3), (4, .int v170)]) (lvS_cons (lvS_cons (lvS_cons (lvS_cons (lvS_cons (lvS_nil (show ([4, 5, 0, 1, 2, 3] : List Nat).Nodup by decide)) rfl) rfl) rfl) rfl) rfl) ?_
                  exact i1 x1 x2 x3 v170 hh168 (by omega) (by omega) (by omega) (by omega) K169 (by omega)
    · intro x4 h b4 K hm
      refine xi_iload (pc' := 159) (x := x4) kc_36_157 rfl rfl ?_
      refine xi_bipush (pc' := 161) (v := 12) kc_36_159 rfl rfl ?_
      by_cases c1 : 12 ≤ x4.toInt
      · refine xi_cmt (pc' := 198) kc_36_161 rfl (xc_ge_t (X := x4.toInt) (Y := 12) rfl (by decide) (by omega)) ?_
        refine xi_return kc_36_198 mr_36 ?_
        exact kk h K
      · refine xi_cmf (pc' := 164) kc_36_161 rfl (xc_ge_f (X := x4.toInt) (Y := 12) rfl (by decide) (by omega)) ?_
        refine xi_aload_n (pc' := 165) (x := 115) kc_36_164 rfl rfl ?_
        refine xp_115 K.1 (fun u2 u3 u4 u5 u6 u7 u8 u9 u10 u11 u12 u13 u14 bu2 bu3 bu4 bu5 bu6 bu7 bu8 bu9 bu10 bu11 bu12 bu13 bu14 A15 => ?_)
        refine xi_getfield (pc' := 168) (v := .ref 142) kc_36_165 rfl rfl rfl A15 rfl ?_
        refine xi_iload (pc' := 170) (x := x4) kc_36_168 rfl rfl ?_
        refine xi_dup2 (pc' := 171) kc_36_170 rfl ⟨rfl, rfl⟩ ?_
        refine xcps4 (xk_arr K.1 xD_142) (fun y16 A16 hy16 ry16 => ?_)
        refine xcps4 (xj_get hy16 ry16 (i := x4) (by omega) (by omega)) (fun v17 ev17 bv17 dv17 => ?_)
        refine xi_iaload (pc' := 172) (v := v17) kc_36_171 rfl A16 (by decide) rfl (xi_in (by omega) (by rw [hy16]; omega)) ev17 ?_
        refine xi_aload_n (pc' := 173) (x := 115) kc_36_172 rfl rfl ?_
        refine xi_getfield (pc' := 176) (v := .ref 142) kc_36_173 rfl rfl rfl A15 rfl ?_
        refine xi_iload (pc' := 178) (x := x4) kc_36_176 rfl rfl ?_
        refine xi_iaload (pc' := 179) (v := v17) kc_36_178 rfl A16 (by decide) rfl (xi_in (by omega) (by rw [hy16]; omega)) ev17 ?_
        refine xi_aload_n (pc' := 180) (x := 115) kc_36_179 rfl rfl ?_
        refine xi_getfield (pc' := 183) (v := .int u4) kc_36_180 rfl rfl rfl A15 rfl ?_
        refine xcps2 (α := Int32) ((v17 : Int32) * u4) (fun v18 ev18 => ?_)
        have rv18 := xc_rng v18
        refine xi_imul (pc' := 184) (v := v18) kc_36_183 rfl ev18 ?_
        refine xi_bipush (pc' := 186) (v := 99) kc_36_184 rfl rfl ?_
        refine xcps2 (α := Int32) ((v18 : Int32) + 99) (fun v19 ev19 => ?_)
        have rv19 := xc_rng v19
        refine xi_iadd (pc' := 187) (v := v19) kc_36_186 rfl ev19 ?_
        refine xi_bipush (pc' := 189) (v := 100) kc_36_187 rfl rfl ?_
        refine xcps2 (α := Int32) (v19 / 100) (fun v20 ev20 => ?_)
        have dv20 : 100 * v20.toInt ≤ v19.toInt + 99 ∧ v19.toInt ≤ 100 * v20.toInt + 99 := by rw [← ev20]; exact xz_div (X := v19.toInt) (Y := 100) rfl (by decide) (by decide)
        have bv20 : -21474837 ≤ v20.toInt ∧ v20.toInt ≤ 21474837 := by omega
        refine xi_idiv (pc' := 190) (v := v20) kc_36_189 rfl ev20 (by decide) ?_
        refine xcps2 (α := Int32) ((v17 : Int32) - v20) (fun v21 ev21 => ?_)
        have rv21 := xc_rng v21
        refine xi_isub (pc' := 191) (v := v21) kc_36_190 rfl ev21 ?_
        refine xcps4 (xj_set (v := v21) hy16 ry16 x4 (by first | omega | decide) (by first | omega | decide)) (fun y22 s22 hy22 ry22 => ?_)
        refine xi_iastore (pc' := 192) (x' := y22) kc_36_191 rfl A16 rfl (xi_in (by omega) (by rw [hy16]; omega)) s22 (fun hh22 eh22 => ?_)
        have K23 := xk_pa K (xk_wa rfl) xD_142 hy22 ry22 eh22
        refine xcps2 (α := Int32) (x4 + 1) (fun v24 ev24 => ?_)
        have zv24 : v24.toInt = (x4.toInt + 1) := by rw [← ev24]; exact (xz_add (X := x4.toInt) (Y := 1) rfl (by decide) (by omega) (by omega)).trans (by omega)
        refine xi_iinc (pc' := 195) (x := x4) (v := v24) (lv' := [(4, .int v24), (0, .ref 115)]) kc_36_192 rfl rfl ev24 rfl (xm_lt ml_36 rfl) ?_
        refine xi_goto (pc' := 157) kc_36_195 rfl ?_
        refine xw_lv (b := [(0, .ref 115), (4, .int v24)]) (lvS_cons (lvS_cons (lvS_nil (show ([4, 0] : List Nat).Nodup by decide)) rfl) rfl) ?_
        exact i2 v24 hh22 (by omega) K23 (by omega)
set_option maxHeartbeats 4000000 in
theorem mt_36_0 {J : xe_J} {ov : List (List Int32)} (hJ : ∀ d mj as h, mj ≠ xe_loff → J d mj as h = none) (hov1 : ov[1]? = some [10, 0, 0, 0, 0, 0]) (hov2 : ov[2]? = some [99, 30, 50, 50, 1, 99999]) {d : Nat} {Q : Option Value → xe_H → Prop} {h : xe_H} {x1 : Int32} {x2 : Int32} {x3 : Int32} (T : xt h) (b1 : (0 ≤ x1.toInt ∧ x1.toInt ≤ 63)) (b2 : (0 ≤ x2.toInt ∧ x2.toInt ≤ 1)) (b3 : (0 ≤ x3.toInt ∧ x3.toInt ≤ 599)) (kk : (∀ h' : xe_H, xk [(0, 9), (115, 1), (83, 0), (29, 0), (31, 0), (33, 0), (35, 0), (37, 0), (39, 0), (41, 0), (43, 0), (45, 0), (47, 0), (49, 0), (51, 0), (125, 0), (29, 2), (31, 2), (33, 2), (35, 2), (37, 2), (39, 2), (41, 2), (43, 2), (45, 2), (47, 2), (49, 2), (51, 2), (127, 0), (1, 5), (115, 23)] h h' → Q none h')) : xw J ov (d + 4) 36 (0, [(0, .ref 115), (1, .int x1), (2, .int x2), (3, .int x3)], [], h) Q := by
  have K : xk [(0, 9), (115, 1), (83, 0), (29, 0), (31, 0), (33, 0), (35, 0), (37, 0), (39, 0), (41, 0), (43, 0), (45, 0), (47, 0), (49, 0), (51, 0), (125, 0), (29, 2), (31, 2), (33, 2), (35, 2), (37, 2), (39, 2), (41, 2), (43, 2), (45, 2), (47, 2), (49, 2), (51, 2), (127, 0), (1, 5), (115, 23)] h h := xk_re T
  refine xi_iconst (pc' := 1) (v := 0) kc_36_0 rfl rfl ?_
  refine xi_istore (pc' := 3) (lv' := [(4, .int 0), (0, .ref 115), (1, .int x1), (2, .int x2), (3, .int x3)]) kc_36_1 rfl rfl (xm_lt ml_36 rfl) ?_
  have zc0 : (0 : Int32).toInt = 0 := by decide
  refine xw_lv (b := [(0, .ref 115), (1, .int x1), (2, .int x2), (3, .int x3), (4, .int 0)]) (lvS_cons (lvS_cons (lvS_cons (lvS_cons (lvS_cons (lvS_nil (show ([4, 0, 1, 2, 3] : List Nat).Nodup by decide)) rfl) rfl) rfl) rfl) rfl) ?_
  exact (lp_36_0 hJ hov1 hov2 (d := d) (hb := h) (fun h9 K9 => kk h9 (xk_tr K K9 rfl)) 31).1 x1 x2 x3 0 h (by omega) (by omega) (by omega) (by omega) (xk_re K.1) (by omega)
set_option maxHeartbeats 4000000 in
theorem lp_35_0 {J : xe_J} {ov : List (List Int32)} (hJ : ∀ d mj as h, mj ≠ xe_loff → J d mj as h = none) (hov1 : ov[1]? = some [10, 0, 0, 0, 0, 0]) (hov2 : ov[2]? = some [99, 30, 50, 50, 1, 99999]) {d : Nat} {Q : Option Value → xe_H → Prop} {hb : xe_H} {u0 : Int32} (bgu0 : (0 ≤ u0.toInt ∧ u0.toInt ≤ 599)) (kk : (∀ h' : xe_H, (∀ v : Int32, xl h' (115, 1) = some (.inl (.int v)) → v.toInt + (-1) * u0.toInt + (-1) = 0) → xk [(0, 9), (83, 0), (29, 0), (31, 0), (33, 0), (35, 0), (37, 0), (39, 0), (41, 0), (43, 0), (45, 0), (47, 0), (49, 0), (51, 0), (125, 0), (29, 2), (31, 2), (33, 2), (35, 2), (37, 2), (39, 2), (41, 2), (43, 2), (45, 2), (47, 2), (49, 2), (51, 2), (127, 0), (1, 5), (115, 23)] hb h' → Q none h')) : ∀ m : Nat, (∀ (x1 : Int32) (h : xe_H), (0 ≤ x1.toInt ∧ x1.toInt ≤ 20) → (∀ v : Int32, xl h (115, 1) = some (.inl (.int v)) → v.toInt + (-1) * u0.toInt + 0 = 0) → xk [(0, 9), (83, 0), (29, 0), (31, 0), (33, 0), (35, 0), (37, 0), (39, 0), (41, 0), (43, 0), (45, 0), (47, 0), (49, 0), (51, 0), (125, 0), (29, 2), (31, 2), (33, 2), (35, 2), (37, 2), (39, 2), (41, 2), (43, 2), (45, 2), (47, 2), (49, 2), (51, 2), (127, 0), (1, 5), (115, 23)] hb h → (-1) * x1.toInt + 81 < (m : Int) → xw J ov (d + 5) 35 (2, [(0, .ref 115), (1, .int x1)], [], h) Q) ∧ (∀ (x1 : Int32) (h : xe_H), (0 ≤ x1.toInt ∧ x1.toInt ≤ 6) → (∀ v : Int32, xl h (115, 1) = some (.inl (.int v)) → v.toInt + (-1) * u0.toInt + 0 = 0) → xk [(0, 9), (83, 0), (29, 0), (31, 0), (33, 0), (35, 0), (37, 0), (39, 0), (41, 0), (43, 0), (45, 0), (47, 0), (49, 0), (51, 0), (125, 0), (29, 2), (31, 2), (33, 2), (35, 2), (37, 2), (39, 2), (41, 2), (43, 2), (45, 2), (47, 2), (49, 2), (51, 2), (127, 0), (1, 5), (115, 23)] hb h → (-1) * x1.toInt + 60 < (m : Int) → xw J ov (d + 5) 35 (93, [(0, .ref 115), (1, .int x1)], [], h) Q) ∧ (∀ (x1 : Int32) (h : xe_H), (0 ≤ x1.toInt ∧ x1.toInt ≤ 12) → (∀ v : Int32, xl h (115, 1) = some (.inl (.int v)) → v.toInt + (-1) * u0.toInt + 0 = 0) → xk [(0, 9), (83, 0), (29, 0), (31, 0), (33, 0), (35, 0), (37, 0), (39, 0), (41, 0), (43, 0), (45, 0), (47, 0), (49, 0), (51, 0), (125, 0), (29, 2), (31, 2), (33, 2), (35, 2), (37, 2), (39, 2), (41, 2), (43, 2), (45, 2), (47, 2), (49, 2), (51, 2), (127, 0), (1, 5), (115, 23)] hb h → (-1) * x1.toInt + 53 < (m : Int) → xw J ov (d + 5) 35 (119, [(0, .ref 115), (1, .int x1)], [], h) Q) ∧ (∀ (x1 : Int32) (h : xe_H), (0 ≤ x1.toInt ∧ x1.toInt ≤ 6) → (∀ v : Int32, xl h (115, 1) = some (.inl (.int v)) → v.toInt + (-1) * u0.toInt + 0 = 0) → xk [(0, 9), (83, 0), (29, 0), (31, 0), (33, 0), (35, 0), (37, 0), (39, 0), (41, 0), (43, 0), (45, 0), (47, 0), (49, 0), (51, 0), (125, 0), (29, 2), (31, 2), (33, 2), (35, 2), (37, 2), (39, 2), (41, 2), (43, 2), (45, 2), (47, 2), (49, 2), (51, 2), (127, 0), (1, 5), (115, 23)] hb h → (-1) * x1.toInt + 40 < (m : Int) → xw J ov (d + 5) 35 (179, [(0, .ref 115), (1, .int x1)], [], h) Q) ∧ (∀ (x1 : Int32) (h : xe_H), (0 ≤ x1.toInt ∧ x1.toInt ≤ 12) → (∀ v : Int32, xl h (115, 1) = some (.inl (.int v)) → v.toInt + (-1) * u0.toInt + 0 = 0) → xk [(0, 9), (83, 0), (29, 0), (31, 0), (33, 0), (35, 0), (37, 0), (39, 0), (41, 0), (43, 0), (45, 0), (47, 0), (49, 0), (51, 0), (125, 0), (29, 2), (31, 2), (33, 2), (35, 2), (37, 2), (39, 2), (41, 2), (43, 2), (45, 2), (47, 2), (49, 2), (51, 2), (127, 0), (1, 5), (115, 23)] hb h → (-1) * x1.toInt + 33 < (m : Int) → xw J ov (d + 5) 35 (205, [(0, .ref 115), (1, .int x1)], [], h) Q) ∧ (∀ (x1 : Int32) (h : xe_H), (0 ≤ x1.toInt ∧ x1.toInt ≤ 20) → (∀ v : Int32, xl h (115, 1) = some (.inl (.int v)) → v.toInt + (-1) * u0.toInt + (-1) = 0) → xk [(0, 9), (83, 0), (29, 0), (31, 0), (33, 0), (35, 0), (37, 0), (39, 0), (41, 0), (43, 0), (45, 0), (47, 0), (49, 0), (51, 0), (125, 0), (29, 2), (31, 2), (33, 2), (35, 2), (37, 2), (39, 2), (41, 2), (43, 2), (45, 2), (47, 2), (49, 2), (51, 2), (127, 0), (1, 5), (115, 23)] hb h → (-1) * x1.toInt + 20 < (m : Int) → xw J ov (d + 5) 35 (286, [(0, .ref 115), (1, .int x1)], [], h) Q) := by
  intro m
  induction m with
  | zero =>
    refine ⟨?_, ?_, ?_, ?_, ?_, ?_⟩
    · intro x1 h b1 gh0 K hm; exfalso; omega
    · intro x1 h b1 gh0 K hm; exfalso; omega
    · intro x1 h b1 gh0 K hm; exfalso; omega
    · intro x1 h b1 gh0 K hm; exfalso; omega
    · intro x1 h b1 gh0 K hm; exfalso; omega
    · intro x1 h b1 gh0 K hm; exfalso; omega
  | succ m ih =>
    obtain ⟨i0, i1, i2, i3, i4, i5⟩ := ih
    refine ⟨?_, ?_, ?_, ?_, ?_, ?_⟩
    · intro x1 h b1 gh0 K hm
      refine xp_115 K.1 (fun u1 u2 u3 u4 u5 u6 u7 u8 u9 u10 u11 u12 u13 bu1 bu2 bu3 bu4 bu5 bu6 bu7 bu8 bu9 bu10 bu11 bu12 bu13 A14 => ?_)
      have gh0' := gh0 _ (xl_of A14 rfl)
      refine xi_iload_n (pc' := 3) (x := x1) kc_35_2 rfl rfl ?_
      refine xi_aload_n (pc' := 4) (x := 115) kc_35_3 rfl rfl ?_
      refine xi_getfield (pc' := 7) (v := .int u8) kc_35_4 rfl rfl rfl A14 rfl ?_
      by_cases c15 : u8.toInt ≤ x1.toInt
      · refine xi_cmt (pc' := 91) kc_35_7 rfl (xc_ge_t (X := x1.toInt) (Y := u8.toInt) rfl rfl (by omega)) ?_
        refine xi_iconst (pc' := 92) (v := 0) kc_35_91 rfl rfl ?_
        refine xi_istore_n (pc' := 93) (lv' := [(1, .int 0), (0, .ref 115)]) kc_35_92 rfl rfl (xm_lt ml_35 rfl) ?_
        have zc0 : (0 : Int32).toInt = 0 := by decide
        refine xw_lv (b := [(0, .ref 115), (1, .int 0)]) (lvS_cons (lvS_cons (lvS_nil (show ([1, 0] : List Nat).Nodup by decide)) rfl) rfl) ?_
        exact i1 0 h (by omega) (fun v e => by have e2 := xl_val (u := u2) A14 rfl e; subst e2; omega) K (by omega)
      · refine xi_cmf (pc' := 10) kc_35_7 rfl (xc_ge_f (X := x1.toInt) (Y := u8.toInt) rfl rfl (by omega)) ?_
        refine xi_aload_n (pc' := 11) (x := 115) kc_35_10 rfl rfl ?_
        refine xi_getfield (pc' := 14) (v := .ref 146) kc_35_11 rfl rfl rfl A14 rfl ?_
        refine xi_iload_n (pc' := 15) (x := x1) kc_35_14 rfl rfl ?_
        refine xcps4 (xk_arr K.1 xD_146) (fun y16 A16 hy16 ry16 => ?_)
        refine xcps4 (xj_get hy16 ry16 (i := x1) (by omega) (by omega)) (fun v17 ev17 bv17 dv17 => ?_)
        refine xi_iaload (pc' := 16) (v := v17) kc_35_15 rfl A16 (by decide) rfl (xi_in (by omega) (by rw [hy16]; omega)) ev17 ?_
        refine xi_aload_n (pc' := 17) (x := 115) kc_35_16 rfl rfl ?_
        refine xi_getfield (pc' := 20) (v := .int u2) kc_35_17 rfl rfl rfl A14 rfl ?_
        by_cases c18 : v17.toInt = u2.toInt
        · refine xi_cmf (pc' := 23) kc_35_20 rfl (xc_ne_f (X := v17.toInt) (Y := u2.toInt) rfl rfl (by omega)) ?_
          refine xi_aload_n (pc' := 24) (x := 115) kc_35_23 rfl rfl ?_
          refine xi_getfield (pc' := 27) (v := .ref 144) kc_35_24 rfl rfl rfl A14 rfl ?_
          refine xi_iload_n (pc' := 28) (x := x1) kc_35_27 rfl rfl ?_
          refine xcps4 (xk_arr K.1 xD_144) (fun y19 A19 hy19 ry19 => ?_)
          refine xcps4 (xj_get hy19 ry19 (i := x1) (by omega) (by omega)) (fun v20 ev20 bv20 dv20 => ?_)
          refine xi_iaload (pc' := 29) (v := v20) kc_35_28 rfl A19 (by decide) rfl (xi_in (by omega) (by rw [hy19]; omega)) ev20 ?_
          by_cases c21 : v20.toInt = 0
          · refine xi_iff (pc' := 32) kc_35_29 rfl (xc_ne_f (X := v20.toInt) (Y := 0) rfl (by decide) (by omega)) ?_
            refine xi_iconst (pc' := 33) (v := 4) kc_35_32 rfl rfl ?_
            refine xi_goto (pc' := 37) kc_35_33 rfl ?_
            refine xi_istore_n (pc' := 38) (lv' := [(2, .int 4), (0, .ref 115), (1, .int x1)]) kc_35_37 rfl rfl (xm_lt ml_35 rfl) ?_
            refine xi_aload_n (pc' := 39) (x := 115) kc_35_38 rfl rfl ?_
            refine xi_getfield (pc' := 42) (v := .ref 148) kc_35_39 rfl rfl rfl A14 rfl ?_
            refine xi_iload_n (pc' := 43) (x := x1) kc_35_42 rfl rfl ?_
            refine xi_aload_n (pc' := 44) (x := 115) kc_35_43 rfl rfl ?_
            refine xi_aload_n (pc' := 45) (x := 115) kc_35_44 rfl rfl ?_
            refine xi_getfield (pc' := 48) (v := .ref 143) kc_35_45 rfl rfl rfl A14 rfl ?_
            refine xi_iload_n (pc' := 49) (x := x1) kc_35_48 rfl rfl ?_
            refine xcps4 (xk_arr K.1 xD_143) (fun y22 A22 hy22 ry22 => ?_)
            refine xcps4 (xj_get hy22 ry22 (i := x1) (by omega) (by omega)) (fun v23 ev23 bv23 dv23 => ?_)
            refine xi_iaload (pc' := 50) (v := v23) kc_35_49 rfl A22 (by decide) rfl (xi_in (by omega) (by rw [hy22]; omega)) ev23 ?_
            refine xi_iload_n (pc' := 51) (x := 4) kc_35_50 rfl rfl ?_
            refine xi_virtual (mj := 13) (as := [.int v23, .int 4]) (st1 := [.int x1, .ref 148]) (lv0 := [(0, .ref 115), (1, .int v23), (2, .int 4)]) kc_35_51 rfl rfl rfl rfl rfl A14 (Nat.le_of_ble_eq_true rfl) (hJ _ _ _ _ (by decide)) (xm_le ml_13 rfl) rfl ?_
            refine xi_iload_n (pc' := 1) (x := 4) kc_13_0 rfl rfl ?_
            refine xi_tsi (pc' := 64) (z := 4) kc_13_1 (rfl) rfl (by decide) ?_
            refine xi_aload_n (pc' := 65) (x := 115) kc_13_64 rfl rfl ?_
            refine xi_getfield (pc' := 68) (v := .ref 120) kc_13_65 rfl rfl rfl A14 rfl ?_
            refine xi_iload_n (pc' := 69) (x := v23) kc_13_68 rfl rfl ?_
            refine xcps4 (xk_arr K.1 xD_120) (fun y24 A24 hy24 ry24 => ?_)
            refine xcps4 (xj_get hy24 ry24 (i := v23) (by omega) (by omega)) (fun v25 ev25 bv25 dv25 => ?_)
            refine xi_iaload (pc' := 70) (v := v25) kc_13_69 rfl A24 (by decide) rfl (xi_in (by omega) (by rw [hy24]; omega)) ev25 ?_
            refine xi_ireturn kc_13_70 mr_13 rfl ?_
            show xw J ov (d + 5) 35 (54, [(2, .int 4), (0, .ref 115), (1, .int x1)], [.int v25, .int x1, .ref 148], h) _
            refine xcps4 (xk_arr K.1 xD_148) (fun y26 A26 hy26 ry26 => ?_)
            refine xcps4 (xj_set (v := v25) hy26 ry26 x1 (by first | omega | decide) (by first | omega | decide)) (fun y27 s27 hy27 ry27 => ?_)
            refine xi_iastore (pc' := 55) (x' := y27) kc_35_54 rfl A26 rfl (xi_in (by omega) (by rw [hy26]; omega)) s27 (fun hh27 eh27 => ?_)
            have K28 := xk_pa K (xk_wa rfl) xD_148 hy27 ry27 eh27
            refine xi_aload_n (pc' := 56) (x := 115) kc_35_55 rfl rfl ?_
            refine xi_aload_n (pc' := 57) (x := 115) kc_35_56 rfl rfl ?_
            have A29 := ((eh27.2.1 115 (by decide)).trans A14)
            refine xi_getfield (pc' := 60) (v := .ref 143) kc_35_57 rfl rfl rfl A29 rfl ?_
            refine xi_iload_n (pc' := 61) (x := x1) kc_35_60 rfl rfl ?_
            have A30 := ((eh27.2.1 143 (by decide)).trans A22)
            refine xi_iaload (pc' := 62) (v := v23) kc_35_61 rfl A30 (by decide) rfl (xi_in (by omega) (by rw [hy22]; omega)) ev23 ?_
            refine xi_iload_n (pc' := 63) (x := 4) kc_35_62 rfl rfl ?_
            refine xi_aload_n (pc' := 64) (x := 115) kc_35_63 rfl rfl ?_
            refine xi_getfield (pc' := 67) (v := .ref 144) kc_35_64 rfl rfl rfl A29 rfl ?_
            refine xi_iload_n (pc' := 68) (x := x1) kc_35_67 rfl rfl ?_
            have A31 := ((eh27.2.1 144 (by decide)).trans A19)
            refine xi_iaload (pc' := 69) (v := v20) kc_35_68 rfl A31 (by decide) rfl (xi_in (by omega) (by rw [hy19]; omega)) ev20 ?_
            refine xi_iff (pc' := 72) kc_35_69 rfl (xc_ne_f (X := v20.toInt) (Y := 0) rfl (by decide) (by omega)) ?_
            refine xi_iconst (pc' := 73) (v := 1) kc_35_72 rfl rfl ?_
            refine xi_goto (pc' := 82) kc_35_73 rfl ?_
            refine xi_virtual (mj := 14) (as := [.int v23, .int 4, .int 1]) (st1 := []) (lv0 := [(0, .ref 115), (1, .int v23), (2, .int 4), (3, .int 1)]) kc_35_82 rfl rfl rfl rfl rfl A29 (Nat.le_of_ble_eq_true rfl) (hJ _ _ _ _ (by decide)) (xm_le ml_14 rfl) rfl ?_
            have zc1 : (1 : Int32).toInt = 1 := by decide
            have zc4 : (4 : Int32).toInt = 4 := by decide
            refine mt_14_0 hJ hov1 hov2 (d := d + 3) (x1 := v23) (x2 := 4) (x3 := 1) K28.1 (by first | omega | decide) (by first | omega | decide) (fun hh33 K34 => ?_)
            have K35 := xk_tr K28 K34 rfl
            refine xp_115 K35.1 (fun u36 u37 u38 u39 u40 u41 u42 u43 u44 u45 u46 u47 u48 bu36 bu37 bu38 bu39 bu40 bu41 bu42 bu43 bu44 bu45 bu46 bu47 bu48 A49 => ?_)
            have e50 : u2 = u37 := xk_eqi (q := 1) K34 rfl A29 A49 rfl rfl
            subst e50
            have e51 : u5 = u40 := xk_eqi (q := 23) K34 rfl A29 A49 rfl rfl
            subst e51
            show xw J ov (d + 5) 35 (85, [(2, .int 4), (0, .ref 115), (1, .int x1)], [], hh33) _
            refine xcps2 (α := Int32) (x1 + 1) (fun v52 ev52 => ?_)
            have zv52 : v52.toInt = (x1.toInt + 1) := by rw [← ev52]; exact (xz_add (X := x1.toInt) (Y := 1) rfl (by decide) (by omega) (by omega)).trans (by omega)
            refine xi_iinc (pc' := 88) (x := x1) (v := v52) (lv' := [(1, .int v52), (2, .int 4), (0, .ref 115)]) kc_35_85 rfl rfl ev52 rfl (xm_lt ml_35 rfl) ?_
            refine xi_goto (pc' := 2) kc_35_88 rfl ?_
            refine xw_lv (b := [(0, .ref 115), (1, .int v52)]) (lvS_cons (lvS_cons (lvS_nil (show ([1, 2, 0] : List Nat).Nodup by decide)) rfl) rfl) ?_
            exact i0 v52 hh33 (by omega) (fun v e => by have e2 := xl_val (u := u2) A49 rfl e; subst e2; omega) K35 (by omega)
          · refine xi_ift (pc' := 36) kc_35_29 rfl (xc_ne_t (X := v20.toInt) (Y := 0) rfl (by decide) (by omega)) ?_
            refine xi_iconst (pc' := 37) (v := 2) kc_35_36 rfl rfl ?_
            refine xi_istore_n (pc' := 38) (lv' := [(2, .int 2), (0, .ref 115), (1, .int x1)]) kc_35_37 rfl rfl (xm_lt ml_35 rfl) ?_
            refine xi_aload_n (pc' := 39) (x := 115) kc_35_38 rfl rfl ?_
            refine xi_getfield (pc' := 42) (v := .ref 148) kc_35_39 rfl rfl rfl A14 rfl ?_
            refine xi_iload_n (pc' := 43) (x := x1) kc_35_42 rfl rfl ?_
            refine xi_aload_n (pc' := 44) (x := 115) kc_35_43 rfl rfl ?_
            refine xi_aload_n (pc' := 45) (x := 115) kc_35_44 rfl rfl ?_
            refine xi_getfield (pc' := 48) (v := .ref 143) kc_35_45 rfl rfl rfl A14 rfl ?_
            refine xi_iload_n (pc' := 49) (x := x1) kc_35_48 rfl rfl ?_
            refine xcps4 (xk_arr K.1 xD_143) (fun y53 A53 hy53 ry53 => ?_)
            refine xcps4 (xj_get hy53 ry53 (i := x1) (by omega) (by omega)) (fun v54 ev54 bv54 dv54 => ?_)
            refine xi_iaload (pc' := 50) (v := v54) kc_35_49 rfl A53 (by decide) rfl (xi_in (by omega) (by rw [hy53]; omega)) ev54 ?_
            refine xi_iload_n (pc' := 51) (x := 2) kc_35_50 rfl rfl ?_
            refine xi_virtual (mj := 13) (as := [.int v54, .int 2]) (st1 := [.int x1, .ref 148]) (lv0 := [(0, .ref 115), (1, .int v54), (2, .int 2)]) kc_35_51 rfl rfl rfl rfl rfl A14 (Nat.le_of_ble_eq_true rfl) (hJ _ _ _ _ (by decide)) (xm_le ml_13 rfl) rfl ?_
            refine xi_iload_n (pc' := 1) (x := 2) kc_13_0 rfl rfl ?_
            refine xi_tsi (pc' := 50) (z := 2) kc_13_1 (rfl) rfl (by decide) ?_
            refine xi_aload_n (pc' := 51) (x := 115) kc_13_50 rfl rfl ?_
            refine xi_getfield (pc' := 54) (v := .ref 118) kc_13_51 rfl rfl rfl A14 rfl ?_
            refine xi_iload_n (pc' := 55) (x := v54) kc_13_54 rfl rfl ?_
            refine xcps4 (xk_arr K.1 xD_118) (fun y55 A55 hy55 ry55 => ?_)
            refine xcps4 (xj_get hy55 ry55 (i := v54) (by omega) (by omega)) (fun v56 ev56 bv56 dv56 => ?_)
            refine xi_iaload (pc' := 56) (v := v56) kc_13_55 rfl A55 (by decide) rfl (xi_in (by omega) (by rw [hy55]; omega)) ev56 ?_
            refine xi_ireturn kc_13_56 mr_13 rfl ?_
            show xw J ov (d + 5) 35 (54, [(2, .int 2), (0, .ref 115), (1, .int x1)], [.int v56, .int x1, .ref 148], h) _
            refine xcps4 (xk_arr K.1 xD_148) (fun y57 A57 hy57 ry57 => ?_)
            refine xcps4 (xj_set (v := v56) hy57 ry57 x1 (by first | omega | decide) (by first | omega | decide)) (fun y58 s58 hy58 ry58 => ?_)
            refine xi_iastore (pc' := 55) (x' := y58) kc_35_54 rfl A57 rfl (xi_in (by omega) (by rw [hy57]; omega)) s58 (fun hh58 eh58 => ?_)
            have K59 := xk_pa K (xk_wa rfl) xD_148 hy58 ry58 eh58
            refine xi_aload_n (pc' := 56) (x := 115) kc_35_55 rfl rfl ?_
            refine xi_aload_n (pc' := 57) (x := 115) kc_35_56 rfl rfl ?_
            have A60 := ((eh58.2.1 115 (by decide)).trans A14)
            refine xi_getfield (pc' := 60) (v := .ref 143) kc_35_57 rfl rfl rfl A60 rfl ?_
            refine xi_iload_n (pc' := 61) (x := x1) kc_35_60 rfl rfl ?_
            have A61 := ((eh58.2.1 143 (by decide)).trans A53)
            refine xi_iaload (pc' := 62) (v := v54) kc_35_61 rfl A61 (by decide) rfl (xi_in (by omega) (by rw [hy53]; omega)) ev54 ?_
            refine xi_iload_n (pc' := 63) (x := 2) kc_35_62 rfl rfl ?_
            refine xi_aload_n (pc' := 64) (x := 115) kc_35_63 rfl rfl ?_
            refine xi_getfield (pc' := 67) (v := .ref 144) kc_35_64 rfl rfl rfl A60 rfl ?_
            refine xi_iload_n (pc' := 68) (x := x1) kc_35_67 rfl rfl ?_
            have A62 := ((eh58.2.1 144 (by decide)).trans A19)
            refine xi_iaload (pc' := 69) (v := v20) kc_35_68 rfl A62 (by decide) rfl (xi_in (by omega) (by rw [hy19]; omega)) ev20 ?_
            refine xi_ift (pc' := 76) kc_35_69 rfl (xc_ne_t (X := v20.toInt) (Y := 0) rfl (by decide) (by omega)) ?_
            refine xi_aload_n (pc' := 77) (x := 115) kc_35_76 rfl rfl ?_
            refine xi_getfield (pc' := 80) (v := .ref 145) kc_35_77 rfl rfl rfl A60 rfl ?_
            refine xi_iload_n (pc' := 81) (x := x1) kc_35_80 rfl rfl ?_
            refine xcps4 (xk_arr K59.1 xD_145) (fun y63 A63 hy63 ry63 => ?_)
            refine xcps4 (xj_get hy63 ry63 (i := x1) (by omega) (by omega)) (fun v64 ev64 bv64 dv64 => ?_)
            refine xi_iaload (pc' := 82) (v := v64) kc_35_81 rfl A63 (by decide) rfl (xi_in (by omega) (by rw [hy63]; omega)) ev64 ?_
            refine xi_virtual (mj := 14) (as := [.int v54, .int 2, .int v64]) (st1 := []) (lv0 := [(0, .ref 115), (1, .int v54), (2, .int 2), (3, .int v64)]) kc_35_82 rfl rfl rfl rfl rfl A60 (Nat.le_of_ble_eq_true rfl) (hJ _ _ _ _ (by decide)) (xm_le ml_14 rfl) rfl ?_
            have zc2 : (2 : Int32).toInt = 2 := by decide
            refine mt_14_0 hJ hov1 hov2 (d := d + 3) (x1 := v54) (x2 := 2) (x3 := v64) K59.1 (by first | omega | decide) (by first | omega | decide) (fun hh66 K67 => ?_)
            have K68 := xk_tr K59 K67 rfl
            refine xp_115 K68.1 (fun u69 u70 u71 u72 u73 u74 u75 u76 u77 u78 u79 u80 u81 bu69 bu70 bu71 bu72 bu73 bu74 bu75 bu76 bu77 bu78 bu79 bu80 bu81 A82 => ?_)
            have e83 : u2 = u70 := xk_eqi (q := 1) K67 rfl A60 A82 rfl rfl
            subst e83
            have e84 : u5 = u73 := xk_eqi (q := 23) K67 rfl A60 A82 rfl rfl
            subst e84
            show xw J ov (d + 5) 35 (85, [(2, .int 2), (0, .ref 115), (1, .int x1)], [], hh66) _
            refine xcps2 (α := Int32) (x1 + 1) (fun v85 ev85 => ?_)
            have zv85 : v85.toInt = (x1.toInt + 1) := by rw [← ev85]; exact (xz_add (X := x1.toInt) (Y := 1) rfl (by decide) (by omega) (by omega)).trans (by omega)
            refine xi_iinc (pc' := 88) (x := x1) (v := v85) (lv' := [(1, .int v85), (2, .int 2), (0, .ref 115)]) kc_35_85 rfl rfl ev85 rfl (xm_lt ml_35 rfl) ?_
            refine xi_goto (pc' := 2) kc_35_88 rfl ?_
            refine xw_lv (b := [(0, .ref 115), (1, .int v85)]) (lvS_cons (lvS_cons (lvS_nil (show ([1, 2, 0] : List Nat).Nodup by decide)) rfl) rfl) ?_
            exact i0 v85 hh66 (by omega) (fun v e => by have e2 := xl_val (u := u2) A82 rfl e; subst e2; omega) K68 (by omega)
        · refine xi_cmt (pc' := 85) kc_35_20 rfl (xc_ne_t (X := v17.toInt) (Y := u2.toInt) rfl rfl (by omega)) ?_
          refine xcps2 (α := Int32) (x1 + 1) (fun v86 ev86 => ?_)
          have zv86 : v86.toInt = (x1.toInt + 1) := by rw [← ev86]; exact (xz_add (X := x1.toInt) (Y := 1) rfl (by decide) (by omega) (by omega)).trans (by omega)
          refine xi_iinc (pc' := 88) (x := x1) (v := v86) (lv' := [(1, .int v86), (0, .ref 115)]) kc_35_85 rfl rfl ev86 rfl (xm_lt ml_35 rfl) ?_
          refine xi_goto (pc' := 2) kc_35_88 rfl ?_
          refine xw_lv (b := [(0, .ref 115), (1, .int v86)]) (lvS_cons (lvS_cons (lvS_nil (show ([1, 0] : List Nat).Nodup by decide)) rfl) rfl) ?_
          exact i0 v86 h (by omega) (fun v e => by have e2 := xl_val (u := u2) A14 rfl e; subst e2; omega) K (by omega)
    · intro x1 h b1 gh0 K hm
      refine xp_115 K.1 (fun u1 u2 u3 u4 u5 u6 u7 u8 u9 u10 u11 u12 u13 bu1 bu2 bu3 bu4 bu5 bu6 bu7 bu8 bu9 bu10 bu11 bu12 bu13 A14 => ?_)
      have gh0' := gh0 _ (xl_of A14 rfl)
      refine xi_iload_n (pc' := 94) (x := x1) kc_35_93 rfl rfl ?_
      refine xi_bipush (pc' := 96) (v := 6) kc_35_94 rfl rfl ?_
      by_cases c15 : 6 ≤ x1.toInt
      · refine xi_cmt (pc' := 117) kc_35_96 rfl (xc_ge_t (X := x1.toInt) (Y := 6) rfl (by decide) (by omega)) ?_
        refine xi_iconst (pc' := 118) (v := 0) kc_35_117 rfl rfl ?_
        refine xi_istore_n (pc' := 119) (lv' := [(1, .int 0), (0, .ref 115)]) kc_35_118 rfl rfl (xm_lt ml_35 rfl) ?_
        have zc0 : (0 : Int32).toInt = 0 := by decide
        refine xw_lv (b := [(0, .ref 115), (1, .int 0)]) (lvS_cons (lvS_cons (lvS_nil (show ([1, 0] : List Nat).Nodup by decide)) rfl) rfl) ?_
        exact i2 0 h (by omega) (fun v e => by have e2 := xl_val (u := u2) A14 rfl e; subst e2; omega) K (by omega)
      · refine xi_cmf (pc' := 99) kc_35_96 rfl (xc_ge_f (X := x1.toInt) (Y := 6) rfl (by decide) (by omega)) ?_
        refine xi_aload_n (pc' := 100) (x := 115) kc_35_99 rfl rfl ?_
        refine xi_getfield (pc' := 103) (v := .ref 141) kc_35_100 rfl rfl rfl A14 rfl ?_
        refine xi_iload_n (pc' := 104) (x := x1) kc_35_103 rfl rfl ?_
        refine xi_aload_n (pc' := 105) (x := 115) kc_35_104 rfl rfl ?_
        refine xi_getfield (pc' := 108) (v := .ref 121) kc_35_105 rfl rfl rfl A14 rfl ?_
        refine xi_iload_n (pc' := 109) (x := x1) kc_35_108 rfl rfl ?_
        refine xcps4 (xk_arr K.1 xD_121) (fun y16 A16 hy16 ry16 => ?_)
        refine xcps4 (xj_get hy16 ry16 (i := x1) (by omega) (by omega)) (fun v17 ev17 bv17 dv17 => ?_)
        refine xi_iaload (pc' := 110) (v := v17) kc_35_109 rfl A16 (by decide) rfl (xi_in (by omega) (by rw [hy16]; omega)) ev17 ?_
        refine xcps4 (xk_arr K.1 xD_141) (fun y18 A18 hy18 ry18 => ?_)
        refine xcps4 (xj_set (v := v17) hy18 ry18 x1 (by first | omega | decide) (by first | omega | decide)) (fun y19 s19 hy19 ry19 => ?_)
        refine xi_iastore (pc' := 111) (x' := y19) kc_35_110 rfl A18 rfl (xi_in (by omega) (by rw [hy18]; omega)) s19 (fun hh19 eh19 => ?_)
        have K20 := xk_pa K (xk_wa rfl) xD_141 hy19 ry19 eh19
        refine xcps2 (α := Int32) (x1 + 1) (fun v21 ev21 => ?_)
        have zv21 : v21.toInt = (x1.toInt + 1) := by rw [← ev21]; exact (xz_add (X := x1.toInt) (Y := 1) rfl (by decide) (by omega) (by omega)).trans (by omega)
        refine xi_iinc (pc' := 114) (x := x1) (v := v21) (lv' := [(1, .int v21), (0, .ref 115)]) kc_35_111 rfl rfl ev21 rfl (xm_lt ml_35 rfl) ?_
        refine xi_goto (pc' := 93) kc_35_114 rfl ?_
        have A22 := ((eh19.2.1 115 (by decide)).trans A14)
        refine xw_lv (b := [(0, .ref 115), (1, .int v21)]) (lvS_cons (lvS_cons (lvS_nil (show ([1, 0] : List Nat).Nodup by decide)) rfl) rfl) ?_
        exact i1 v21 hh19 (by omega) (fun v e => by have e2 := xl_val (u := u2) A22 rfl e; subst e2; omega) K20 (by omega)
    · intro x1 h b1 gh0 K hm
      refine xp_115 K.1 (fun u1 u2 u3 u4 u5 u6 u7 u8 u9 u10 u11 u12 u13 bu1 bu2 bu3 bu4 bu5 bu6 bu7 bu8 bu9 bu10 bu11 bu12 bu13 A14 => ?_)
      have gh0' := gh0 _ (xl_of A14 rfl)
      refine xi_iload_n (pc' := 120) (x := x1) kc_35_119 rfl rfl ?_
      refine xi_bipush (pc' := 122) (v := 12) kc_35_120 rfl rfl ?_
      by_cases c15 : 12 ≤ x1.toInt
      · refine xi_cmt (pc' := 143) kc_35_122 rfl (xc_ge_t (X := x1.toInt) (Y := 12) rfl (by decide) (by omega)) ?_
        refine xi_aload_n (pc' := 144) (x := 115) kc_35_143 rfl rfl ?_
        refine xi_aload_n (pc' := 145) (x := 115) kc_35_144 rfl rfl ?_
        refine xi_aload_n (pc' := 146) (x := 115) kc_35_145 rfl rfl ?_
        refine xi_getfield (pc' := 149) (v := .int u2) kc_35_146 rfl rfl rfl A14 rfl ?_
        refine xi_virtual (mj := 19) (as := [.int u2]) (st1 := [.ref 115]) (lv0 := [(0, .ref 115), (1, .int u2)]) kc_35_149 rfl rfl rfl rfl rfl A14 (Nat.le_of_ble_eq_true rfl) (hJ _ _ _ _ (by decide)) (xm_le ml_19 rfl) rfl ?_
        refine mt_19_0 hJ hov1 hov2 (d := d + 3) (x1 := u2) K.1 (by first | omega | decide) (fun r16 hh17 K18 => ?_)
        have br16 := xc_rng r16
        have K19 := xk_tr K K18 rfl
        refine xp_115 K19.1 (fun u20 u21 u22 u23 u24 u25 u26 u27 u28 u29 u30 u31 u32 bu20 bu21 bu22 bu23 bu24 bu25 bu26 bu27 bu28 bu29 bu30 bu31 bu32 A33 => ?_)
        have e34 : u2 = u21 := xk_eqi (q := 1) K18 rfl A14 A33 rfl rfl
        subst e34
        have e35 : u5 = u24 := xk_eqi (q := 23) K18 rfl A14 A33 rfl rfl
        subst e35
        show xw J ov (d + 5) 35 (152, [(0, .ref 115), (1, .int x1)], [.int r16, .ref 115], hh17) _
        refine xi_putfield (pc' := 155) (fs' := [.int u20, .int u2, .ref 116, .ref 117, .ref 118, .ref 119, .ref 120, .ref 121, .ref 122, .ref 123, .ref 124, .ref 125, .ref 126, .ref 127, .ref 128, .ref 129, .int u22, .ref 130, .int u23, .ref 131, .ref 132, .ref 133, .ref 134, .int u5, .ref 135, .ref 136, .ref 137, .ref 138, .ref 139, .ref 140, .ref 141, .ref 142, .int r16, .int u26, .int u27, .ref 143, .ref 144, .ref 145, .ref 146, .ref 147, .ref 148, .int u28, .ref 149, .ref 150, .ref 151, .int u29, .ref 152, .ref 153, .ref 154, .ref 155, .ref 156, .ref 157, .ref 158, .ref 159, .int u30, .ref 160, .int u31, .ref 161, .ref 162, .ref 163, .ref 164, .int u32, .ref 165, .ref 166]) kc_35_152 rfl rfl rfl A33 rfl rfl rfl (Nat.le_of_ble_eq_true rfl) rfl (fun hh37 eh36 => ?_)
        have K38 := xk_pf (k := 32) (v := r16) K19 (xk_wf rfl) xD_115 A33 rfl (by first | omega | decide) (by first | omega | decide) eh36 rfl
        refine xi_aload_n (pc' := 156) (x := 115) kc_35_155 rfl rfl ?_
        refine xi_aload_n (pc' := 157) (x := 115) kc_35_156 rfl rfl ?_
        refine xi_aload_n (pc' := 158) (x := 115) kc_35_157 rfl rfl ?_
        refine xi_getfield (pc' := 161) (v := .int u2) kc_35_158 rfl rfl rfl eh36.1 rfl ?_
        refine xi_virtual (mj := 20) (as := [.int u2]) (st1 := [.ref 115]) (lv0 := [(0, .ref 115), (1, .int u2)]) kc_35_161 rfl rfl rfl rfl rfl eh36.1 (Nat.le_of_ble_eq_true rfl) (hJ _ _ _ _ (by decide)) (xm_le ml_20 rfl) rfl ?_
        refine mt_20_0 hJ hov1 hov2 (d := d + 3) (x1 := u2) K38.1 (by first | omega | decide) (fun r39 hh40 K41 => ?_)
        have br39 := xc_rng r39
        have K42 := xk_tr K38 K41 rfl
        refine xp_115 K42.1 (fun u43 u44 u45 u46 u47 u48 u49 u50 u51 u52 u53 u54 u55 bu43 bu44 bu45 bu46 bu47 bu48 bu49 bu50 bu51 bu52 bu53 bu54 bu55 A56 => ?_)
        have e57 : u2 = u44 := xk_eqi (q := 1) K41 rfl eh36.1 A56 rfl rfl
        subst e57
        have e58 : u5 = u47 := xk_eqi (q := 23) K41 rfl eh36.1 A56 rfl rfl
        subst e58
        show xw J ov (d + 5) 35 (164, [(0, .ref 115), (1, .int x1)], [.int r39, .ref 115], hh40) _
        refine xi_putfield (pc' := 167) (fs' := [.int u43, .int u2, .ref 116, .ref 117, .ref 118, .ref 119, .ref 120, .ref 121, .ref 122, .ref 123, .ref 124, .ref 125, .ref 126, .ref 127, .ref 128, .ref 129, .int u45, .ref 130, .int u46, .ref 131, .ref 132, .ref 133, .ref 134, .int u5, .ref 135, .ref 136, .ref 137, .ref 138, .ref 139, .ref 140, .ref 141, .ref 142, .int u48, .int r39, .int u50, .ref 143, .ref 144, .ref 145, .ref 146, .ref 147, .ref 148, .int u51, .ref 149, .ref 150, .ref 151, .int u52, .ref 152, .ref 153, .ref 154, .ref 155, .ref 156, .ref 157, .ref 158, .ref 159, .int u53, .ref 160, .int u54, .ref 161, .ref 162, .ref 163, .ref 164, .int u55, .ref 165, .ref 166]) kc_35_164 rfl rfl rfl A56 rfl rfl rfl (Nat.le_of_ble_eq_true rfl) rfl (fun hh60 eh59 => ?_)
        have K61 := xk_pf (k := 33) (v := r39) K42 (xk_wf rfl) xD_115 A56 rfl (by first | omega | decide) (by first | omega | decide) eh59 rfl
        refine xi_aload_n (pc' := 168) (x := 115) kc_35_167 rfl rfl ?_
        refine xi_iconst (pc' := 169) (v := 0) kc_35_168 rfl rfl ?_
        refine xi_iconst (pc' := 170) (v := 1) kc_35_169 rfl rfl ?_
        refine xi_aload_n (pc' := 171) (x := 115) kc_35_170 rfl rfl ?_
        refine xi_getfield (pc' := 174) (v := .int u2) kc_35_171 rfl rfl rfl eh59.1 rfl ?_
        refine xi_virtual (mj := 36) (as := [.int 0, .int 1, .int u2]) (st1 := []) (lv0 := [(0, .ref 115), (1, .int 0), (2, .int 1), (3, .int u2)]) kc_35_174 rfl rfl rfl rfl rfl eh59.1 (Nat.le_of_ble_eq_true rfl) (hJ _ _ _ _ (by decide)) (xm_le ml_36 rfl) rfl ?_
        have zc0 : (0 : Int32).toInt = 0 := by decide
        have zc1 : (1 : Int32).toInt = 1 := by decide
        refine mt_36_0 hJ hov1 hov2 (d := d) (x1 := 0) (x2 := 1) (x3 := u2) K61.1 (by first | omega | decide) (by first | omega | decide) (by first | omega | decide) (fun hh63 K64 => ?_)
        have K65 := xk_tr K61 K64 rfl
        refine xp_115 K65.1 (fun u66 u67 u68 u69 u70 u71 u72 u73 u74 u75 u76 u77 u78 bu66 bu67 bu68 bu69 bu70 bu71 bu72 bu73 bu74 bu75 bu76 bu77 bu78 A79 => ?_)
        have e80 : u2 = u67 := xk_eqi (q := 1) K64 rfl eh59.1 A79 rfl rfl
        subst e80
        have e81 : u5 = u70 := xk_eqi (q := 23) K64 rfl eh59.1 A79 rfl rfl
        subst e81
        show xw J ov (d + 5) 35 (177, [(0, .ref 115), (1, .int x1)], [], hh63) _
        refine xi_iconst (pc' := 178) (v := 0) kc_35_177 rfl rfl ?_
        refine xi_istore_n (pc' := 179) (lv' := [(1, .int 0), (0, .ref 115)]) kc_35_178 rfl rfl (xm_lt ml_35 rfl) ?_
        have zc0 : (0 : Int32).toInt = 0 := by decide
        refine xw_lv (b := [(0, .ref 115), (1, .int 0)]) (lvS_cons (lvS_cons (lvS_nil (show ([1, 0] : List Nat).Nodup by decide)) rfl) rfl) ?_
        exact i3 0 hh63 (by omega) (fun v e => by have e2 := xl_val (u := u2) A79 rfl e; subst e2; omega) K65 (by omega)
      · refine xi_cmf (pc' := 125) kc_35_122 rfl (xc_ge_f (X := x1.toInt) (Y := 12) rfl (by decide) (by omega)) ?_
        refine xi_aload_n (pc' := 126) (x := 115) kc_35_125 rfl rfl ?_
        refine xi_getfield (pc' := 129) (v := .ref 142) kc_35_126 rfl rfl rfl A14 rfl ?_
        refine xi_iload_n (pc' := 130) (x := x1) kc_35_129 rfl rfl ?_
        refine xi_aload_n (pc' := 131) (x := 115) kc_35_130 rfl rfl ?_
        refine xi_getfield (pc' := 134) (v := .ref 128) kc_35_131 rfl rfl rfl A14 rfl ?_
        refine xi_iload_n (pc' := 135) (x := x1) kc_35_134 rfl rfl ?_
        refine xcps4 (xk_arr K.1 xD_128) (fun y82 A82 hy82 ry82 => ?_)
        refine xcps4 (xj_get hy82 ry82 (i := x1) (by omega) (by omega)) (fun v83 ev83 bv83 dv83 => ?_)
        refine xi_iaload (pc' := 136) (v := v83) kc_35_135 rfl A82 (by decide) rfl (xi_in (by omega) (by rw [hy82]; omega)) ev83 ?_
        refine xcps4 (xk_arr K.1 xD_142) (fun y84 A84 hy84 ry84 => ?_)
        refine xcps4 (xj_set (v := v83) hy84 ry84 x1 (by first | omega | decide) (by first | omega | decide)) (fun y85 s85 hy85 ry85 => ?_)
        refine xi_iastore (pc' := 137) (x' := y85) kc_35_136 rfl A84 rfl (xi_in (by omega) (by rw [hy84]; omega)) s85 (fun hh85 eh85 => ?_)
        have K86 := xk_pa K (xk_wa rfl) xD_142 hy85 ry85 eh85
        refine xcps2 (α := Int32) (x1 + 1) (fun v87 ev87 => ?_)
        have zv87 : v87.toInt = (x1.toInt + 1) := by rw [← ev87]; exact (xz_add (X := x1.toInt) (Y := 1) rfl (by decide) (by omega) (by omega)).trans (by omega)
        refine xi_iinc (pc' := 140) (x := x1) (v := v87) (lv' := [(1, .int v87), (0, .ref 115)]) kc_35_137 rfl rfl ev87 rfl (xm_lt ml_35 rfl) ?_
        refine xi_goto (pc' := 119) kc_35_140 rfl ?_
        have A88 := ((eh85.2.1 115 (by decide)).trans A14)
        refine xw_lv (b := [(0, .ref 115), (1, .int v87)]) (lvS_cons (lvS_cons (lvS_nil (show ([1, 0] : List Nat).Nodup by decide)) rfl) rfl) ?_
        exact i2 v87 hh85 (by omega) (fun v e => by have e2 := xl_val (u := u2) A88 rfl e; subst e2; omega) K86 (by omega)
    · intro x1 h b1 gh0 K hm
      refine xp_115 K.1 (fun u1 u2 u3 u4 u5 u6 u7 u8 u9 u10 u11 u12 u13 bu1 bu2 bu3 bu4 bu5 bu6 bu7 bu8 bu9 bu10 bu11 bu12 bu13 A14 => ?_)
      have gh0' := gh0 _ (xl_of A14 rfl)
      refine xi_iload_n (pc' := 180) (x := x1) kc_35_179 rfl rfl ?_
      refine xi_bipush (pc' := 182) (v := 6) kc_35_180 rfl rfl ?_
      by_cases c15 : 6 ≤ x1.toInt
      · refine xi_cmt (pc' := 203) kc_35_182 rfl (xc_ge_t (X := x1.toInt) (Y := 6) rfl (by decide) (by omega)) ?_
        refine xi_iconst (pc' := 204) (v := 0) kc_35_203 rfl rfl ?_
        refine xi_istore_n (pc' := 205) (lv' := [(1, .int 0), (0, .ref 115)]) kc_35_204 rfl rfl (xm_lt ml_35 rfl) ?_
        have zc0 : (0 : Int32).toInt = 0 := by decide
        refine xw_lv (b := [(0, .ref 115), (1, .int 0)]) (lvS_cons (lvS_cons (lvS_nil (show ([1, 0] : List Nat).Nodup by decide)) rfl) rfl) ?_
        exact i4 0 h (by omega) (fun v e => by have e2 := xl_val (u := u2) A14 rfl e; subst e2; omega) K (by omega)
      · refine xi_cmf (pc' := 185) kc_35_182 rfl (xc_ge_f (X := x1.toInt) (Y := 6) rfl (by decide) (by omega)) ?_
        refine xi_aload_n (pc' := 186) (x := 115) kc_35_185 rfl rfl ?_
        refine xi_getfield (pc' := 189) (v := .ref 121) kc_35_186 rfl rfl rfl A14 rfl ?_
        refine xi_iload_n (pc' := 190) (x := x1) kc_35_189 rfl rfl ?_
        refine xi_aload_n (pc' := 191) (x := 115) kc_35_190 rfl rfl ?_
        refine xi_getfield (pc' := 194) (v := .ref 141) kc_35_191 rfl rfl rfl A14 rfl ?_
        refine xi_iload_n (pc' := 195) (x := x1) kc_35_194 rfl rfl ?_
        refine xcps4 (xk_arr K.1 xD_141) (fun y16 A16 hy16 ry16 => ?_)
        refine xcps4 (xj_get hy16 ry16 (i := x1) (by omega) (by omega)) (fun v17 ev17 bv17 dv17 => ?_)
        refine xi_iaload (pc' := 196) (v := v17) kc_35_195 rfl A16 (by decide) rfl (xi_in (by omega) (by rw [hy16]; omega)) ev17 ?_
        refine xcps4 (xk_arr K.1 xD_121) (fun y18 A18 hy18 ry18 => ?_)
        refine xcps4 (xj_set (v := v17) hy18 ry18 x1 (by first | omega | decide) (by first | omega | decide)) (fun y19 s19 hy19 ry19 => ?_)
        refine xi_iastore (pc' := 197) (x' := y19) kc_35_196 rfl A18 rfl (xi_in (by omega) (by rw [hy18]; omega)) s19 (fun hh19 eh19 => ?_)
        have K20 := xk_pa K (xk_wa rfl) xD_121 hy19 ry19 eh19
        refine xcps2 (α := Int32) (x1 + 1) (fun v21 ev21 => ?_)
        have zv21 : v21.toInt = (x1.toInt + 1) := by rw [← ev21]; exact (xz_add (X := x1.toInt) (Y := 1) rfl (by decide) (by omega) (by omega)).trans (by omega)
        refine xi_iinc (pc' := 200) (x := x1) (v := v21) (lv' := [(1, .int v21), (0, .ref 115)]) kc_35_197 rfl rfl ev21 rfl (xm_lt ml_35 rfl) ?_
        refine xi_goto (pc' := 179) kc_35_200 rfl ?_
        have A22 := ((eh19.2.1 115 (by decide)).trans A14)
        refine xw_lv (b := [(0, .ref 115), (1, .int v21)]) (lvS_cons (lvS_cons (lvS_nil (show ([1, 0] : List Nat).Nodup by decide)) rfl) rfl) ?_
        exact i3 v21 hh19 (by omega) (fun v e => by have e2 := xl_val (u := u2) A22 rfl e; subst e2; omega) K20 (by omega)
    · intro x1 h b1 gh0 K hm
      refine xp_115 K.1 (fun u1 u2 u3 u4 u5 u6 u7 u8 u9 u10 u11 u12 u13 bu1 bu2 bu3 bu4 bu5 bu6 bu7 bu8 bu9 bu10 bu11 bu12 bu13 A14 => ?_)
      have gh0' := gh0 _ (xl_of A14 rfl)
      refine xi_iload_n (pc' := 206) (x := x1) kc_35_205 rfl rfl ?_
      refine xi_bipush (pc' := 208) (v := 12) kc_35_206 rfl rfl ?_
      by_cases c15 : 12 ≤ x1.toInt
      · refine xi_cmt (pc' := 274) kc_35_208 rfl (xc_ge_t (X := x1.toInt) (Y := 12) rfl (by decide) (by omega)) ?_
        refine xi_aload_n (pc' := 275) (x := 115) kc_35_274 rfl rfl ?_
        refine xi_dup (pc' := 276) kc_35_275 rfl rfl ?_
        refine xi_getfield (pc' := 279) (v := .int u2) kc_35_276 rfl rfl rfl A14 rfl ?_
        refine xi_iconst (pc' := 280) (v := 1) kc_35_279 rfl rfl ?_
        refine xcps2 (α := Int32) (u2 + 1) (fun v16 ev16 => ?_)
        have zv16 : v16.toInt = (u2.toInt + 1) := by rw [← ev16]; exact (xz_add (X := u2.toInt) (Y := 1) rfl (by decide) (by omega) (by omega)).trans (by omega)
        refine xi_iadd (pc' := 281) (v := v16) kc_35_280 rfl ev16 ?_
        refine xi_putfield (pc' := 284) (fs' := [.int u1, .int v16, .ref 116, .ref 117, .ref 118, .ref 119, .ref 120, .ref 121, .ref 122, .ref 123, .ref 124, .ref 125, .ref 126, .ref 127, .ref 128, .ref 129, .int u3, .ref 130, .int u4, .ref 131, .ref 132, .ref 133, .ref 134, .int u5, .ref 135, .ref 136, .ref 137, .ref 138, .ref 139, .ref 140, .ref 141, .ref 142, .int u6, .int u7, .int u8, .ref 143, .ref 144, .ref 145, .ref 146, .ref 147, .ref 148, .int u9, .ref 149, .ref 150, .ref 151, .int u10, .ref 152, .ref 153, .ref 154, .ref 155, .ref 156, .ref 157, .ref 158, .ref 159, .int u11, .ref 160, .int u12, .ref 161, .ref 162, .ref 163, .ref 164, .int u13, .ref 165, .ref 166]) kc_35_281 rfl rfl rfl A14 rfl rfl rfl (Nat.le_of_ble_eq_true rfl) rfl (fun hh18 eh17 => ?_)
        have K19 := xk_pf (k := 1) (v := v16) K (xk_wf rfl) xD_115 A14 rfl (by first | omega | decide) (by first | omega | decide) eh17 rfl
        refine xi_iconst (pc' := 285) (v := 0) kc_35_284 rfl rfl ?_
        refine xi_istore_n (pc' := 286) (lv' := [(1, .int 0), (0, .ref 115)]) kc_35_285 rfl rfl (xm_lt ml_35 rfl) ?_
        have zc0 : (0 : Int32).toInt = 0 := by decide
        refine xw_lv (b := [(0, .ref 115), (1, .int 0)]) (lvS_cons (lvS_cons (lvS_nil (show ([1, 0] : List Nat).Nodup by decide)) rfl) rfl) ?_
        exact i5 0 hh18 (by omega) (fun v e => by have e2 := xl_val (u := v16) eh17.1 rfl e; subst e2; omega) K19 (by omega)
      · refine xi_cmf (pc' := 211) kc_35_208 rfl (xc_ge_f (X := x1.toInt) (Y := 12) rfl (by decide) (by omega)) ?_
        refine xi_aload_n (pc' := 212) (x := 115) kc_35_211 rfl rfl ?_
        refine xi_getfield (pc' := 215) (v := .ref 128) kc_35_212 rfl rfl rfl A14 rfl ?_
        refine xi_iload_n (pc' := 216) (x := x1) kc_35_215 rfl rfl ?_
        refine xi_aload_n (pc' := 217) (x := 115) kc_35_216 rfl rfl ?_
        refine xi_getfield (pc' := 220) (v := .ref 142) kc_35_217 rfl rfl rfl A14 rfl ?_
        refine xi_iload_n (pc' := 221) (x := x1) kc_35_220 rfl rfl ?_
        refine xcps4 (xk_arr K.1 xD_142) (fun y20 A20 hy20 ry20 => ?_)
        refine xcps4 (xj_get hy20 ry20 (i := x1) (by omega) (by omega)) (fun v21 ev21 bv21 dv21 => ?_)
        refine xi_iaload (pc' := 222) (v := v21) kc_35_221 rfl A20 (by decide) rfl (xi_in (by omega) (by rw [hy20]; omega)) ev21 ?_
        refine xcps4 (xk_arr K.1 xD_128) (fun y22 A22 hy22 ry22 => ?_)
        refine xcps4 (xj_set (v := v21) hy22 ry22 x1 (by first | omega | decide) (by first | omega | decide)) (fun y23 s23 hy23 ry23 => ?_)
        refine xi_iastore (pc' := 223) (x' := y23) kc_35_222 rfl A22 rfl (xi_in (by omega) (by rw [hy22]; omega)) s23 (fun hh23 eh23 => ?_)
        have K24 := xk_pa K (xk_wa rfl) xD_128 hy23 ry23 eh23
        refine xi_aload_n (pc' := 224) (x := 115) kc_35_223 rfl rfl ?_
        have A25 := ((eh23.2.1 115 (by decide)).trans A14)
        refine xi_getfield (pc' := 227) (v := .ref 129) kc_35_224 rfl rfl rfl A25 rfl ?_
        refine xi_iload_n (pc' := 228) (x := x1) kc_35_227 rfl rfl ?_
        refine xi_dup2 (pc' := 229) kc_35_228 rfl ⟨rfl, rfl⟩ ?_
        refine xcps4 (xk_arr K24.1 xD_129) (fun y26 A26 hy26 ry26 => ?_)
        refine xcps4 (xj_get hy26 ry26 (i := x1) (by omega) (by omega)) (fun v27 ev27 bv27 dv27 => ?_)
        refine xi_iaload (pc' := 230) (v := v27) kc_35_229 rfl A26 (by decide) rfl (xi_in (by omega) (by rw [hy26]; omega)) ev27 ?_
        refine xi_aload_n (pc' := 231) (x := 115) kc_35_230 rfl rfl ?_
        refine xi_getfield (pc' := 234) (v := .ref 128) kc_35_231 rfl rfl rfl A25 rfl ?_
        refine xi_iload_n (pc' := 235) (x := x1) kc_35_234 rfl rfl ?_
        refine xcps4 (xj_get hy23 ry23 (i := x1) (by omega) (by omega)) (fun v28 ev28 bv28 dv28 => ?_)
        refine xi_iaload (pc' := 236) (v := v28) kc_35_235 rfl eh23.1 (by decide) rfl (xi_in (by omega) (by rw [hy23]; omega)) ev28 ?_
        refine xi_bipush (pc' := 238) (v := 50) kc_35_236 rfl rfl ?_
        by_cases c29 : v28.toInt < 50
        · refine xi_cmt (pc' := 245) kc_35_238 rfl (xc_lt_t (X := v28.toInt) (Y := 50) rfl (by decide) (by omega)) ?_
          refine xi_iconst (pc' := 246) (v := 0) kc_35_245 rfl rfl ?_
          refine xcps2 (α := Int32) (v27 + 0) (fun v30 ev30 => ?_)
          have zv30 : v30.toInt = v27.toInt := by rw [← ev30]; exact (xz_add (X := v27.toInt) (Y := 0) rfl (by decide) (by omega) (by omega)).trans (by omega)
          refine xi_iadd (pc' := 247) (v := v30) kc_35_246 rfl ev30 ?_
          refine xcps4 (xj_set (v := v30) hy26 ry26 x1 (by first | omega | decide) (by first | omega | decide)) (fun y31 s31 hy31 ry31 => ?_)
          refine xi_iastore (pc' := 248) (x' := y31) kc_35_247 rfl A26 rfl (xi_in (by omega) (by rw [hy26]; omega)) s31 (fun hh31 eh31 => ?_)
          have K32 := xk_pa K24 (xk_wa rfl) xD_129 hy31 ry31 eh31
          refine xi_aload_n (pc' := 249) (x := 115) kc_35_248 rfl rfl ?_
          have A33 := ((eh31.2.1 115 (by decide)).trans A25)
          refine xi_getfield (pc' := 252) (v := .ref 130) kc_35_249 rfl rfl rfl A33 rfl ?_
          refine xi_bipush (pc' := 254) (v := 12) kc_35_252 rfl rfl ?_
          refine xi_aload_n (pc' := 255) (x := 115) kc_35_254 rfl rfl ?_
          refine xi_getfield (pc' := 258) (v := .int u2) kc_35_255 rfl rfl rfl A33 rfl ?_
          refine xcps2 (α := Int32) (12 * u2) (fun v34 ev34 => ?_)
          have zv34 : v34.toInt = (12) * u2.toInt := by rw [← ev34]; exact (xz_mul (X := 12) (Y := u2.toInt) (by decide) rfl (by omega) (by omega)).trans (by omega)
          refine xi_imul (pc' := 259) (v := v34) kc_35_258 rfl ev34 ?_
          refine xi_iload_n (pc' := 260) (x := x1) kc_35_259 rfl rfl ?_
          refine xcps2 (α := Int32) (v34 + x1) (fun v35 ev35 => ?_)
          have zv35 : v35.toInt = ((12) * u2.toInt + x1.toInt) := by rw [← ev35]; exact (xz_add (X := (12) * u2.toInt) (Y := x1.toInt) zv34 rfl (by omega) (by omega)).trans (by omega)
          refine xi_iadd (pc' := 261) (v := v35) kc_35_260 rfl ev35 ?_
          refine xi_aload_n (pc' := 262) (x := 115) kc_35_261 rfl rfl ?_
          refine xi_getfield (pc' := 265) (v := .ref 128) kc_35_262 rfl rfl rfl A33 rfl ?_
          refine xi_iload_n (pc' := 266) (x := x1) kc_35_265 rfl rfl ?_
          have A36 := ((eh31.2.1 128 (by decide)).trans eh23.1)
          refine xi_iaload (pc' := 267) (v := v28) kc_35_266 rfl A36 (by decide) rfl (xi_in (by omega) (by rw [hy23]; omega)) ev28 ?_
          refine xcps4 (xk_arr K32.1 xD_130) (fun y37 A37 hy37 ry37 => ?_)
          refine xcps4 (xj_set (v := v28) hy37 ry37 v35 (by first | omega | decide) (by first | omega | decide)) (fun y38 s38 hy38 ry38 => ?_)
          refine xi_iastore (pc' := 268) (x' := y38) kc_35_267 rfl A37 rfl (xi_in (by rw [zv35]; omega) (by rw [hy37]; rw [zv35]; omega)) s38 (fun hh38 eh38 => ?_)
          have K39 := xk_pa K32 (xk_wa rfl) xD_130 hy38 ry38 eh38
          refine xcps2 (α := Int32) (x1 + 1) (fun v40 ev40 => ?_)
          have zv40 : v40.toInt = (x1.toInt + 1) := by rw [← ev40]; exact (xz_add (X := x1.toInt) (Y := 1) rfl (by decide) (by omega) (by omega)).trans (by omega)
          refine xi_iinc (pc' := 271) (x := x1) (v := v40) (lv' := [(1, .int v40), (0, .ref 115)]) kc_35_268 rfl rfl ev40 rfl (xm_lt ml_35 rfl) ?_
          refine xi_goto (pc' := 205) kc_35_271 rfl ?_
          have A41 := ((eh38.2.1 115 (by decide)).trans A33)
          refine xw_lv (b := [(0, .ref 115), (1, .int v40)]) (lvS_cons (lvS_cons (lvS_nil (show ([1, 0] : List Nat).Nodup by decide)) rfl) rfl) ?_
          exact i4 v40 hh38 (by omega) (fun v e => by have e2 := xl_val (u := u2) A41 rfl e; subst e2; omega) K39 (by omega)
        · refine xi_cmf (pc' := 241) kc_35_238 rfl (xc_lt_f (X := v28.toInt) (Y := 50) rfl (by decide) (by omega)) ?_
          refine xi_iconst (pc' := 242) (v := 1) kc_35_241 rfl rfl ?_
          refine xi_goto (pc' := 246) kc_35_242 rfl ?_
          refine xcps2 (α := Int32) ((v27 : Int32) + 1) (fun v42 ev42 => ?_)
          have rv42 := xc_rng v42
          refine xi_iadd (pc' := 247) (v := v42) kc_35_246 rfl ev42 ?_
          refine xcps4 (xj_set (v := v42) hy26 ry26 x1 (by first | omega | decide) (by first | omega | decide)) (fun y43 s43 hy43 ry43 => ?_)
          refine xi_iastore (pc' := 248) (x' := y43) kc_35_247 rfl A26 rfl (xi_in (by omega) (by rw [hy26]; omega)) s43 (fun hh43 eh43 => ?_)
          have K44 := xk_pa K24 (xk_wa rfl) xD_129 hy43 ry43 eh43
          refine xi_aload_n (pc' := 249) (x := 115) kc_35_248 rfl rfl ?_
          have A45 := ((eh43.2.1 115 (by decide)).trans A25)
          refine xi_getfield (pc' := 252) (v := .ref 130) kc_35_249 rfl rfl rfl A45 rfl ?_
          refine xi_bipush (pc' := 254) (v := 12) kc_35_252 rfl rfl ?_
          refine xi_aload_n (pc' := 255) (x := 115) kc_35_254 rfl rfl ?_
          refine xi_getfield (pc' := 258) (v := .int u2) kc_35_255 rfl rfl rfl A45 rfl ?_
          refine xcps2 (α := Int32) (12 * u2) (fun v46 ev46 => ?_)
          have zv46 : v46.toInt = (12) * u2.toInt := by rw [← ev46]; exact (xz_mul (X := 12) (Y := u2.toInt) (by decide) rfl (by omega) (by omega)).trans (by omega)
          refine xi_imul (pc' := 259) (v := v46) kc_35_258 rfl ev46 ?_
          refine xi_iload_n (pc' := 260) (x := x1) kc_35_259 rfl rfl ?_
          refine xcps2 (α := Int32) (v46 + x1) (fun v47 ev47 => ?_)
          have zv47 : v47.toInt = ((12) * u2.toInt + x1.toInt) := by rw [← ev47]; exact (xz_add (X := (12) * u2.toInt) (Y := x1.toInt) zv46 rfl (by omega) (by omega)).trans (by omega)
          refine xi_iadd (pc' := 261) (v := v47) kc_35_260 rfl ev47 ?_
          refine xi_aload_n (pc' := 262) (x := 115) kc_35_261 rfl rfl ?_
          refine xi_getfield (pc' := 265) (v := .ref 128) kc_35_262 rfl rfl rfl A45 rfl ?_
          refine xi_iload_n (pc' := 266) (x := x1) kc_35_265 rfl rfl ?_
          have A48 := ((eh43.2.1 128 (by decide)).trans eh23.1)
          refine xi_iaload (pc' := 267) (v := v28) kc_35_266 rfl A48 (by decide) rfl (xi_in (by omega) (by rw [hy23]; omega)) ev28 ?_
          refine xcps4 (xk_arr K44.1 xD_130) (fun y49 A49 hy49 ry49 => ?_)
          refine xcps4 (xj_set (v := v28) hy49 ry49 v47 (by first | omega | decide) (by first | omega | decide)) (fun y50 s50 hy50 ry50 => ?_)
          refine xi_iastore (pc' := 268) (x' := y50) kc_35_267 rfl A49 rfl (xi_in (by rw [zv47]; omega) (by rw [hy49]; rw [zv47]; omega)) s50 (fun hh50 eh50 => ?_)
          have K51 := xk_pa K44 (xk_wa rfl) xD_130 hy50 ry50 eh50
          refine xcps2 (α := Int32) (x1 + 1) (fun v52 ev52 => ?_)
          have zv52 : v52.toInt = (x1.toInt + 1) := by rw [← ev52]; exact (xz_add (X := x1.toInt) (Y := 1) rfl (by decide) (by omega) (by omega)).trans (by omega)
          refine xi_iinc (pc' := 271) (x := x1) (v := v52) (lv' := [(1, .int v52), (0, .ref 115)]) kc_35_268 rfl rfl ev52 rfl (xm_lt ml_35 rfl) ?_
          refine xi_goto (pc' := 205) kc_35_271 rfl ?_
          have A53 := ((eh50.2.1 115 (by decide)).trans A45)
          refine xw_lv (b := [(0, .ref 115), (1, .int v52)]) (lvS_cons (lvS_cons (lvS_nil (show ([1, 0] : List Nat).Nodup by decide)) rfl) rfl) ?_
          exact i4 v52 hh50 (by omega) (fun v e => by have e2 := xl_val (u := u2) A53 rfl e; subst e2; omega) K51 (by omega)
    · intro x1 h b1 gh0 K hm
      refine xp_115 K.1 (fun u1 u2 u3 u4 u5 u6 u7 u8 u9 u10 u11 u12 u13 bu1 bu2 bu3 bu4 bu5 bu6 bu7 bu8 bu9 bu10 bu11 bu12 bu13 A14 => ?_)
      have gh0' := gh0 _ (xl_of A14 rfl)
      refine xi_iload_n (pc' := 287) (x := x1) kc_35_286 rfl rfl ?_
      refine xi_aload_n (pc' := 288) (x := 115) kc_35_287 rfl rfl ?_
      refine xi_getfield (pc' := 291) (v := .int u8) kc_35_288 rfl rfl rfl A14 rfl ?_
      by_cases c15 : u8.toInt ≤ x1.toInt
      · refine xi_cmt (pc' := 343) kc_35_291 rfl (xc_ge_t (X := x1.toInt) (Y := u8.toInt) rfl rfl (by omega)) ?_
        refine xi_aload_n (pc' := 344) (x := 115) kc_35_343 rfl rfl ?_
        refine xi_iconst (pc' := 345) (v := 0) kc_35_344 rfl rfl ?_
        refine xi_putfield (pc' := 348) (fs' := [.int u1, .int u2, .ref 116, .ref 117, .ref 118, .ref 119, .ref 120, .ref 121, .ref 122, .ref 123, .ref 124, .ref 125, .ref 126, .ref 127, .ref 128, .ref 129, .int u3, .ref 130, .int u4, .ref 131, .ref 132, .ref 133, .ref 134, .int u5, .ref 135, .ref 136, .ref 137, .ref 138, .ref 139, .ref 140, .ref 141, .ref 142, .int u6, .int u7, .int u8, .ref 143, .ref 144, .ref 145, .ref 146, .ref 147, .ref 148, .int 0, .ref 149, .ref 150, .ref 151, .int u10, .ref 152, .ref 153, .ref 154, .ref 155, .ref 156, .ref 157, .ref 158, .ref 159, .int u11, .ref 160, .int u12, .ref 161, .ref 162, .ref 163, .ref 164, .int u13, .ref 165, .ref 166]) kc_35_345 rfl rfl rfl A14 rfl rfl rfl (Nat.le_of_ble_eq_true rfl) rfl (fun hh17 eh16 => ?_)
        have K18 := xk_pf (k := 41) (v := 0) K (xk_wf rfl) xD_115 A14 rfl (by first | omega | decide) (by first | omega | decide) eh16 rfl
        refine xi_return kc_35_348 mr_35 ?_
        exact kk hh17 (fun v e => by have e2 := xl_val (u := u2) eh16.1 rfl e; subst e2; omega) K18
      · refine xi_cmf (pc' := 294) kc_35_291 rfl (xc_ge_f (X := x1.toInt) (Y := u8.toInt) rfl rfl (by omega)) ?_
        refine xi_aload_n (pc' := 295) (x := 115) kc_35_294 rfl rfl ?_
        refine xi_getfield (pc' := 298) (v := .ref 147) kc_35_295 rfl rfl rfl A14 rfl ?_
        refine xi_iload_n (pc' := 299) (x := x1) kc_35_298 rfl rfl ?_
        refine xcps4 (xk_arr K.1 xD_147) (fun y19 A19 hy19 ry19 => ?_)
        refine xcps4 (xj_get hy19 ry19 (i := x1) (by omega) (by omega)) (fun v20 ev20 bv20 dv20 => ?_)
        refine xi_iaload (pc' := 300) (v := v20) kc_35_299 rfl A19 (by decide) rfl (xi_in (by omega) (by rw [hy19]; omega)) ev20 ?_
        refine xi_aload_n (pc' := 301) (x := 115) kc_35_300 rfl rfl ?_
        refine xi_getfield (pc' := 304) (v := .int u2) kc_35_301 rfl rfl rfl A14 rfl ?_
        by_cases c21 : v20.toInt = u2.toInt
        · refine xi_cmf (pc' := 307) kc_35_304 rfl (xc_ne_f (X := v20.toInt) (Y := u2.toInt) rfl rfl (by omega)) ?_
          refine xi_aload_n (pc' := 308) (x := 115) kc_35_307 rfl rfl ?_
          refine xi_aload_n (pc' := 309) (x := 115) kc_35_308 rfl rfl ?_
          refine xi_getfield (pc' := 312) (v := .ref 143) kc_35_309 rfl rfl rfl A14 rfl ?_
          refine xi_iload_n (pc' := 313) (x := x1) kc_35_312 rfl rfl ?_
          refine xcps4 (xk_arr K.1 xD_143) (fun y22 A22 hy22 ry22 => ?_)
          refine xcps4 (xj_get hy22 ry22 (i := x1) (by omega) (by omega)) (fun v23 ev23 bv23 dv23 => ?_)
          refine xi_iaload (pc' := 314) (v := v23) kc_35_313 rfl A22 (by decide) rfl (xi_in (by omega) (by rw [hy22]; omega)) ev23 ?_
          refine xi_aload_n (pc' := 315) (x := 115) kc_35_314 rfl rfl ?_
          refine xi_getfield (pc' := 318) (v := .ref 144) kc_35_315 rfl rfl rfl A14 rfl ?_
          refine xi_iload_n (pc' := 319) (x := x1) kc_35_318 rfl rfl ?_
          refine xcps4 (xk_arr K.1 xD_144) (fun y24 A24 hy24 ry24 => ?_)
          refine xcps4 (xj_get hy24 ry24 (i := x1) (by omega) (by omega)) (fun v25 ev25 bv25 dv25 => ?_)
          refine xi_iaload (pc' := 320) (v := v25) kc_35_319 rfl A24 (by decide) rfl (xi_in (by omega) (by rw [hy24]; omega)) ev25 ?_
          by_cases c26 : v25.toInt = 0
          · refine xi_iff (pc' := 323) kc_35_320 rfl (xc_ne_f (X := v25.toInt) (Y := 0) rfl (by decide) (by omega)) ?_
            refine xi_iconst (pc' := 324) (v := 4) kc_35_323 rfl rfl ?_
            refine xi_goto (pc' := 328) kc_35_324 rfl ?_
            refine xi_aload_n (pc' := 329) (x := 115) kc_35_328 rfl rfl ?_
            refine xi_getfield (pc' := 332) (v := .ref 148) kc_35_329 rfl rfl rfl A14 rfl ?_
            refine xi_iload_n (pc' := 333) (x := x1) kc_35_332 rfl rfl ?_
            refine xcps4 (xk_arr K.1 xD_148) (fun y27 A27 hy27 ry27 => ?_)
            refine xcps4 (xj_get hy27 ry27 (i := x1) (by omega) (by omega)) (fun v28 ev28 bv28 dv28 => ?_)
            refine xi_iaload (pc' := 334) (v := v28) kc_35_333 rfl A27 (by decide) rfl (xi_in (by omega) (by rw [hy27]; omega)) ev28 ?_
            refine xi_virtual (mj := 14) (as := [.int v23, .int 4, .int v28]) (st1 := []) (lv0 := [(0, .ref 115), (1, .int v23), (2, .int 4), (3, .int v28)]) kc_35_334 rfl rfl rfl rfl rfl A14 (Nat.le_of_ble_eq_true rfl) (hJ _ _ _ _ (by decide)) (xm_le ml_14 rfl) rfl ?_
            have zc4 : (4 : Int32).toInt = 4 := by decide
            refine mt_14_0 hJ hov1 hov2 (d := d + 3) (x1 := v23) (x2 := 4) (x3 := v28) K.1 (by first | omega | decide) (by first | omega | decide) (fun hh30 K31 => ?_)
            have K32 := xk_tr K K31 rfl
            refine xp_115 K32.1 (fun u33 u34 u35 u36 u37 u38 u39 u40 u41 u42 u43 u44 u45 bu33 bu34 bu35 bu36 bu37 bu38 bu39 bu40 bu41 bu42 bu43 bu44 bu45 A46 => ?_)
            have e47 : u2 = u34 := xk_eqi (q := 1) K31 rfl A14 A46 rfl rfl
            subst e47
            have e48 : u5 = u37 := xk_eqi (q := 23) K31 rfl A14 A46 rfl rfl
            subst e48
            show xw J ov (d + 5) 35 (337, [(0, .ref 115), (1, .int x1)], [], hh30) _
            refine xcps2 (α := Int32) (x1 + 1) (fun v49 ev49 => ?_)
            have zv49 : v49.toInt = (x1.toInt + 1) := by rw [← ev49]; exact (xz_add (X := x1.toInt) (Y := 1) rfl (by decide) (by omega) (by omega)).trans (by omega)
            refine xi_iinc (pc' := 340) (x := x1) (v := v49) (lv' := [(1, .int v49), (0, .ref 115)]) kc_35_337 rfl rfl ev49 rfl (xm_lt ml_35 rfl) ?_
            refine xi_goto (pc' := 286) kc_35_340 rfl ?_
            refine xw_lv (b := [(0, .ref 115), (1, .int v49)]) (lvS_cons (lvS_cons (lvS_nil (show ([1, 0] : List Nat).Nodup by decide)) rfl) rfl) ?_
            exact i5 v49 hh30 (by omega) (fun v e => by have e2 := xl_val (u := u2) A46 rfl e; subst e2; omega) K32 (by omega)
          · refine xi_ift (pc' := 327) kc_35_320 rfl (xc_ne_t (X := v25.toInt) (Y := 0) rfl (by decide) (by omega)) ?_
            refine xi_iconst (pc' := 328) (v := 2) kc_35_327 rfl rfl ?_
            refine xi_aload_n (pc' := 329) (x := 115) kc_35_328 rfl rfl ?_
            refine xi_getfield (pc' := 332) (v := .ref 148) kc_35_329 rfl rfl rfl A14 rfl ?_
            refine xi_iload_n (pc' := 333) (x := x1) kc_35_332 rfl rfl ?_
            refine xcps4 (xk_arr K.1 xD_148) (fun y50 A50 hy50 ry50 => ?_)
            refine xcps4 (xj_get hy50 ry50 (i := x1) (by omega) (by omega)) (fun v51 ev51 bv51 dv51 => ?_)
            refine xi_iaload (pc' := 334) (v := v51) kc_35_333 rfl A50 (by decide) rfl (xi_in (by omega) (by rw [hy50]; omega)) ev51 ?_
            refine xi_virtual (mj := 14) (as := [.int v23, .int 2, .int v51]) (st1 := []) (lv0 := [(0, .ref 115), (1, .int v23), (2, .int 2), (3, .int v51)]) kc_35_334 rfl rfl rfl rfl rfl A14 (Nat.le_of_ble_eq_true rfl) (hJ _ _ _ _ (by decide)) (xm_le ml_14 rfl) rfl ?_
            have zc2 : (2 : Int32).toInt = 2 := by decide
            refine mt_14_0 hJ hov1 hov2 (d := d + 3) (x1 := v23) (x2 := 2) (x3 := v51) K.1 (by first | omega | decide) (by first | omega | decide) (fun hh53 K54 => ?_)
            have K55 := xk_tr K K54 rfl
            refine xp_115 K55.1 (fun u56 u57 u58 u59 u60 u61 u62 u63 u64 u65 u66 u67 u68 bu56 bu57 bu58 bu59 bu60 bu61 bu62 bu63 bu64 bu65 bu66 bu67 bu68 A69 => ?_)
            have e70 : u2 = u57 := xk_eqi (q := 1) K54 rfl A14 A69 rfl rfl
            subst e70
            have e71 : u5 = u60 := xk_eqi (q := 23) K54 rfl A14 A69 rfl rfl
            subst e71
            show xw J ov (d + 5) 35 (337, [(0, .ref 115), (1, .int x1)], [], hh53) _
            refine xcps2 (α := Int32) (x1 + 1) (fun v72 ev72 => ?_)
            have zv72 : v72.toInt = (x1.toInt + 1) := by rw [← ev72]; exact (xz_add (X := x1.toInt) (Y := 1) rfl (by decide) (by omega) (by omega)).trans (by omega)
            refine xi_iinc (pc' := 340) (x := x1) (v := v72) (lv' := [(1, .int v72), (0, .ref 115)]) kc_35_337 rfl rfl ev72 rfl (xm_lt ml_35 rfl) ?_
            refine xi_goto (pc' := 286) kc_35_340 rfl ?_
            refine xw_lv (b := [(0, .ref 115), (1, .int v72)]) (lvS_cons (lvS_cons (lvS_nil (show ([1, 0] : List Nat).Nodup by decide)) rfl) rfl) ?_
            exact i5 v72 hh53 (by omega) (fun v e => by have e2 := xl_val (u := u2) A69 rfl e; subst e2; omega) K55 (by omega)
        · refine xi_cmt (pc' := 337) kc_35_304 rfl (xc_ne_t (X := v20.toInt) (Y := u2.toInt) rfl rfl (by omega)) ?_
          refine xcps2 (α := Int32) (x1 + 1) (fun v73 ev73 => ?_)
          have zv73 : v73.toInt = (x1.toInt + 1) := by rw [← ev73]; exact (xz_add (X := x1.toInt) (Y := 1) rfl (by decide) (by omega) (by omega)).trans (by omega)
          refine xi_iinc (pc' := 340) (x := x1) (v := v73) (lv' := [(1, .int v73), (0, .ref 115)]) kc_35_337 rfl rfl ev73 rfl (xm_lt ml_35 rfl) ?_
          refine xi_goto (pc' := 286) kc_35_340 rfl ?_
          refine xw_lv (b := [(0, .ref 115), (1, .int v73)]) (lvS_cons (lvS_cons (lvS_nil (show ([1, 0] : List Nat).Nodup by decide)) rfl) rfl) ?_
          exact i5 v73 h (by omega) (fun v e => by have e2 := xl_val (u := u2) A14 rfl e; subst e2; omega) K (by omega)
set_option maxHeartbeats 4000000 in
theorem mt_35_0 {J : xe_J} {ov : List (List Int32)} (hJ : ∀ d mj as h, mj ≠ xe_loff → J d mj as h = none) (hov1 : ov[1]? = some [10, 0, 0, 0, 0, 0]) (hov2 : ov[2]? = some [99, 30, 50, 50, 1, 99999]) {d : Nat} {Q : Option Value → xe_H → Prop} {h : xe_H} {u0 : Int32} (T : xt h) (bgu0 : (0 ≤ u0.toInt ∧ u0.toInt ≤ 599)) (gi0 : (∀ v : Int32, xl h (115, 1) = some (.inl (.int v)) → v.toInt + (-1) * u0.toInt + 0 = 0)) (kk : (∀ h' : xe_H, (∀ v : Int32, xl h' (115, 1) = some (.inl (.int v)) → v.toInt + (-1) * u0.toInt + (-1) = 0) → xk [(0, 9), (83, 0), (29, 0), (31, 0), (33, 0), (35, 0), (37, 0), (39, 0), (41, 0), (43, 0), (45, 0), (47, 0), (49, 0), (51, 0), (125, 0), (29, 2), (31, 2), (33, 2), (35, 2), (37, 2), (39, 2), (41, 2), (43, 2), (45, 2), (47, 2), (49, 2), (51, 2), (127, 0), (1, 5), (115, 23)] h h' → Q none h')) : xw J ov (d + 5) 35 (0, [(0, .ref 115)], [], h) Q := by
  have K : xk [(0, 9), (83, 0), (29, 0), (31, 0), (33, 0), (35, 0), (37, 0), (39, 0), (41, 0), (43, 0), (45, 0), (47, 0), (49, 0), (51, 0), (125, 0), (29, 2), (31, 2), (33, 2), (35, 2), (37, 2), (39, 2), (41, 2), (43, 2), (45, 2), (47, 2), (49, 2), (51, 2), (127, 0), (1, 5), (115, 23)] h h := xk_re T
  refine xp_115 K.1 (fun u1 u2 u3 u4 u5 u6 u7 u8 u9 u10 u11 u12 u13 bu1 bu2 bu3 bu4 bu5 bu6 bu7 bu8 bu9 bu10 bu11 bu12 bu13 A14 => ?_)
  have gi0' := gi0 _ (xl_of A14 rfl)
  refine xi_iconst (pc' := 1) (v := 0) kc_35_0 rfl rfl ?_
  refine xi_istore_n (pc' := 2) (lv' := [(1, .int 0), (0, .ref 115)]) kc_35_1 rfl rfl (xm_lt ml_35 rfl) ?_
  have zc0 : (0 : Int32).toInt = 0 := by decide
  refine xw_lv (b := [(0, .ref 115), (1, .int 0)]) (lvS_cons (lvS_cons (lvS_nil (show ([1, 0] : List Nat).Nodup by decide)) rfl) rfl) ?_
  exact (lp_35_0 hJ hov1 hov2 (d := d) (hb := h) bgu0 (fun h9 o90 K9 => kk h9 o90 (xk_tr K K9 rfl)) 82).1 0 h (by omega) (fun v e => by have e2 := xl_val (u := u2) A14 rfl e; subst e2; omega) (xk_re K.1) (by omega)
set_option maxHeartbeats 4000000 in
theorem lp_34_0 {J : xe_J} {ov : List (List Int32)} (hJ : ∀ d mj as h, mj ≠ xe_loff → J d mj as h = none) (hov1 : ov[1]? = some [10, 0, 0, 0, 0, 0]) (hov2 : ov[2]? = some [99, 30, 50, 50, 1, 99999]) {d : Nat} {Q : Option Value → xe_H → Prop} {hb : xe_H} {u0 : Int32} (bgu0 : (0 ≤ u0.toInt ∧ u0.toInt ≤ 600)) (kk : (∀ (r : Int32) (h' : xe_H), ((-6) ≤ r.toInt ∧ r.toInt ≤ 600) → xk [(0, 9), (83, 0), (29, 0), (31, 0), (33, 0), (35, 0), (37, 0), (39, 0), (41, 0), (43, 0), (45, 0), (47, 0), (49, 0), (51, 0), (125, 0), (29, 2), (31, 2), (33, 2), (35, 2), (37, 2), (39, 2), (41, 2), (43, 2), (45, 2), (47, 2), (49, 2), (51, 2), (127, 0), (1, 5), (115, 23)] hb h' → Q (some (.int r)) h')) : ∀ m : Nat, (∀ (x1 : Int32) (x2 : Int32) (h : xe_H), (1 ≤ x1.toInt ∧ x1.toInt ≤ 600) → (0 ≤ x2.toInt ∧ x2.toInt ≤ 600) → (∀ v : Int32, xl h (115, 1) = some (.inl (.int v)) → v.toInt + (-1) * u0.toInt + (-1) * x2.toInt + 0 = 0) → (x2.toInt + (-1) * x1.toInt + 0 ≤ 0) → (x1.toInt + u0.toInt + (-600) ≤ 0) → xk [(0, 9), (83, 0), (29, 0), (31, 0), (33, 0), (35, 0), (37, 0), (39, 0), (41, 0), (43, 0), (45, 0), (47, 0), (49, 0), (51, 0), (125, 0), (29, 2), (31, 2), (33, 2), (35, 2), (37, 2), (39, 2), (41, 2), (43, 2), (45, 2), (47, 2), (49, 2), (51, 2), (127, 0), (1, 5), (115, 23)] hb h → (-1) * x2.toInt + 600 < (m : Int) → xw J ov (d + 6) 34 (38, [(0, .ref 115), (1, .int x1), (2, .int x2)], [], h) Q) := by
  intro m
  induction m with
  | zero =>
    intro x1 x2 h b1 b2 gh0 gh1 gh2 K hm; exfalso; omega
  | succ m ih =>
    have i0 := ih
    intro x1 x2 h b1 b2 gh0 gh1 gh2 K hm
    refine xp_115 K.1 (fun u1 u2 u3 u4 u5 u6 u7 u8 u9 u10 u11 u12 u13 bu1 bu2 bu3 bu4 bu5 bu6 bu7 bu8 bu9 bu10 bu11 bu12 bu13 A14 => ?_)
    have gh0' := gh0 _ (xl_of A14 rfl)
    refine xi_iload_n (pc' := 39) (x := x2) kc_34_38 rfl rfl ?_
    refine xi_iload_n (pc' := 40) (x := x1) kc_34_39 rfl rfl ?_
    by_cases c15 : x1.toInt ≤ x2.toInt
    · refine xi_cmt (pc' := 53) kc_34_40 rfl (xc_ge_t (X := x2.toInt) (Y := x1.toInt) rfl rfl (by omega)) ?_
      refine xi_aload_n (pc' := 54) (x := 115) kc_34_53 rfl rfl ?_
      refine xi_getfield (pc' := 57) (v := .int u2) kc_34_54 rfl rfl rfl A14 rfl ?_
      refine xi_ireturn kc_34_57 mr_34 rfl ?_
      exact kk u2 h (by omega) K
    · refine xi_cmf (pc' := 43) kc_34_40 rfl (xc_ge_f (X := x2.toInt) (Y := x1.toInt) rfl rfl (by omega)) ?_
      refine xi_aload_n (pc' := 44) (x := 115) kc_34_43 rfl rfl ?_
      refine xi_virtual (mj := 35) (as := []) (st1 := []) (lv0 := [(0, .ref 115)]) kc_34_44 rfl rfl rfl rfl rfl A14 (Nat.le_of_ble_eq_true rfl) (hJ _ _ _ _ (by decide)) (xm_le ml_35 rfl) rfl ?_
      refine mt_35_0 hJ hov1 hov2 (d := d) (u0 := u2) K.1 (by omega) (fun v e => by have e2 := xl_val (u := u2) A14 rfl e; subst e2; omega) (fun hh17 o19 K18 => ?_)
      have K20 := xk_tr K K18 rfl
      refine xp_115 K20.1 (fun u21 u22 u23 u24 u25 u26 u27 u28 u29 u30 u31 u32 u33 bu21 bu22 bu23 bu24 bu25 bu26 bu27 bu28 bu29 bu30 bu31 bu32 bu33 A34 => ?_)
      have e35 : u5 = u25 := xk_eqi (q := 23) K18 rfl A14 A34 rfl rfl
      subst e35
      have o19' := o19 _ (xl_of A34 rfl)
      show xw J ov (d + 6) 34 (47, [(0, .ref 115), (1, .int x1), (2, .int x2)], [], hh17) _
      refine xcps2 (α := Int32) (x2 + 1) (fun v36 ev36 => ?_)
      have zv36 : v36.toInt = (x2.toInt + 1) := by rw [← ev36]; exact (xz_add (X := x2.toInt) (Y := 1) rfl (by decide) (by omega) (by omega)).trans (by omega)
      refine xi_iinc (pc' := 50) (x := x2) (v := v36) (lv' := [(2, .int v36), (0, .ref 115), (1, .int x1)]) kc_34_47 rfl rfl ev36 rfl (xm_lt ml_34 rfl) ?_
      refine xi_goto (pc' := 38) kc_34_50 rfl ?_
      refine xw_lv (b := [(0, .ref 115), (1, .int x1), (2, .int v36)]) (lvS_cons (lvS_cons (lvS_cons (lvS_nil (show ([2, 0, 1] : List Nat).Nodup by decide)) rfl) rfl) rfl) ?_
      exact i0 x1 v36 hh17 (by omega) (by omega) (fun v e => by have e2 := xl_val (u := u22) A34 rfl e; subst e2; omega) (by first | omega | decide) (by first | omega | decide) K20 (by omega)
set_option maxHeartbeats 4000000 in
theorem mt_34_0 {J : xe_J} {ov : List (List Int32)} (hJ : ∀ d mj as h, mj ≠ xe_loff → J d mj as h = none) (hov1 : ov[1]? = some [10, 0, 0, 0, 0, 0]) (hov2 : ov[2]? = some [99, 30, 50, 50, 1, 99999]) {d : Nat} {Q : Option Value → xe_H → Prop} {h : xe_H} {x1 : Int32} {u0 : Int32} (T : xt h) (bgu0 : (0 ≤ u0.toInt ∧ u0.toInt ≤ 600)) (gi0 : (∀ v : Int32, xl h (115, 1) = some (.inl (.int v)) → v.toInt + (-1) * u0.toInt + 0 = 0)) (kk : (∀ (r : Int32) (h' : xe_H), ((-6) ≤ r.toInt ∧ r.toInt ≤ 600) → xk [(0, 9), (83, 0), (29, 0), (31, 0), (33, 0), (35, 0), (37, 0), (39, 0), (41, 0), (43, 0), (45, 0), (47, 0), (49, 0), (51, 0), (125, 0), (29, 2), (31, 2), (33, 2), (35, 2), (37, 2), (39, 2), (41, 2), (43, 2), (45, 2), (47, 2), (49, 2), (51, 2), (127, 0), (1, 5), (115, 23)] h h' → Q (some (.int r)) h')) : xw J ov (d + 6) 34 (0, [(0, .ref 115), (1, .int x1)], [], h) Q := by
  have K : xk [(0, 9), (83, 0), (29, 0), (31, 0), (33, 0), (35, 0), (37, 0), (39, 0), (41, 0), (43, 0), (45, 0), (47, 0), (49, 0), (51, 0), (125, 0), (29, 2), (31, 2), (33, 2), (35, 2), (37, 2), (39, 2), (41, 2), (43, 2), (45, 2), (47, 2), (49, 2), (51, 2), (127, 0), (1, 5), (115, 23)] h h := xk_re T
  have rx1 := xc_rng x1
  refine xp_115 K.1 (fun u1 u2 u3 u4 u5 u6 u7 u8 u9 u10 u11 u12 u13 bu1 bu2 bu3 bu4 bu5 bu6 bu7 bu8 bu9 bu10 bu11 bu12 bu13 A14 => ?_)
  have gi0' := gi0 _ (xl_of A14 rfl)
  refine xi_aload_n (pc' := 1) (x := 115) kc_34_0 rfl rfl ?_
  refine xi_iconst (pc' := 2) (v := 0) kc_34_1 rfl rfl ?_
  refine xi_putfield (pc' := 5) (fs' := [.int 0, .int u2, .ref 116, .ref 117, .ref 118, .ref 119, .ref 120, .ref 121, .ref 122, .ref 123, .ref 124, .ref 125, .ref 126, .ref 127, .ref 128, .ref 129, .int u3, .ref 130, .int u4, .ref 131, .ref 132, .ref 133, .ref 134, .int u5, .ref 135, .ref 136, .ref 137, .ref 138, .ref 139, .ref 140, .ref 141, .ref 142, .int u6, .int u7, .int u8, .ref 143, .ref 144, .ref 145, .ref 146, .ref 147, .ref 148, .int u9, .ref 149, .ref 150, .ref 151, .int u10, .ref 152, .ref 153, .ref 154, .ref 155, .ref 156, .ref 157, .ref 158, .ref 159, .int u11, .ref 160, .int u12, .ref 161, .ref 162, .ref 163, .ref 164, .int u13, .ref 165, .ref 166]) kc_34_2 rfl rfl rfl A14 rfl rfl rfl (Nat.le_of_ble_eq_true rfl) rfl (fun hh16 eh15 => ?_)
  have K17 := xk_pf (k := 0) (v := 0) K (xk_wf rfl) xD_115 A14 rfl (by first | omega | decide) (by first | omega | decide) eh15 rfl
  refine xi_iload_n (pc' := 6) (x := x1) kc_34_5 rfl rfl ?_
  refine xi_iconst (pc' := 7) (v := 1) kc_34_6 rfl rfl ?_
  by_cases c18 : 1 ≤ x1.toInt
  · refine xi_cmt (pc' := 17) kc_34_7 rfl (xc_ge_t (X := x1.toInt) (Y := 1) rfl (by decide) (by omega)) ?_
    refine xi_iload_n (pc' := 18) (x := x1) kc_34_17 rfl rfl ?_
    refine xi_sipush (pc' := 21) (v := 600) kc_34_18 rfl rfl ?_
    refine xi_aload_n (pc' := 22) (x := 115) kc_34_21 rfl rfl ?_
    refine xi_getfield (pc' := 25) (v := .int u2) kc_34_22 rfl rfl rfl eh15.1 rfl ?_
    refine xcps2 (α := Int32) (600 - u2) (fun v19 ev19 => ?_)
    have zv19 : v19.toInt = ((-1) * u2.toInt + 600) := by rw [← ev19]; exact (xz_sub (X := 600) (Y := u2.toInt) (by decide) rfl (by omega) (by omega)).trans (by omega)
    refine xi_isub (pc' := 26) (v := v19) kc_34_25 rfl ev19 ?_
    by_cases c20 : x1.toInt ≤ ((-1) * u2.toInt + 600)
    · refine xi_cmt (pc' := 36) kc_34_26 rfl (xc_le_t (X := x1.toInt) (Y := ((-1) * u2.toInt + 600)) rfl zv19 (by omega)) ?_
      refine xi_iconst (pc' := 37) (v := 0) kc_34_36 rfl rfl ?_
      refine xi_istore_n (pc' := 38) (lv' := [(2, .int 0), (0, .ref 115), (1, .int x1)]) kc_34_37 rfl rfl (xm_lt ml_34 rfl) ?_
      have zc0 : (0 : Int32).toInt = 0 := by decide
      refine xw_lv (b := [(0, .ref 115), (1, .int x1), (2, .int 0)]) (lvS_cons (lvS_cons (lvS_cons (lvS_nil (show ([2, 0, 1] : List Nat).Nodup by decide)) rfl) rfl) rfl) ?_
      exact (lp_34_0 hJ hov1 hov2 (d := d) (hb := hh16) bgu0 (fun r9 h9 b9 K9 => kk r9 h9 b9 (xk_tr K17 K9 rfl)) 601) x1 0 hh16 (by omega) (by omega) (fun v e => by have e2 := xl_val (u := u2) eh15.1 rfl e; subst e2; omega) (by first | omega | decide) (by first | omega | decide) (xk_re K17.1) (by omega)
    · refine xi_cmf (pc' := 29) kc_34_26 rfl (xc_le_f (X := x1.toInt) (Y := ((-1) * u2.toInt + 600)) rfl zv19 (by omega)) ?_
      refine xi_aload_n (pc' := 30) (x := 115) kc_34_29 rfl rfl ?_
      refine xi_bipush (pc' := 32) (v := (-6)) kc_34_30 rfl rfl ?_
      refine xi_virtual (mj := 12) (as := [.int (-6)]) (st1 := []) (lv0 := [(0, .ref 115), (1, .int (-6))]) kc_34_32 rfl rfl rfl rfl rfl eh15.1 (Nat.le_of_ble_eq_true rfl) (hJ _ _ _ _ (by decide)) (xm_le ml_12 rfl) rfl ?_
      refine xi_aload_n (pc' := 1) (x := 115) kc_12_0 rfl rfl ?_
      refine xi_getfield (pc' := 4) (v := .ref 140) kc_12_1 rfl rfl rfl eh15.1 rfl ?_
      refine xi_iload_n (pc' := 5) (x := (-6)) kc_12_4 rfl rfl ?_
      refine xi_ineg (pc' := 6) (v := 6) kc_12_5 rfl rfl ?_
      refine xi_dup2 (pc' := 7) kc_12_6 rfl ⟨rfl, rfl⟩ ?_
      refine xcps4 (xk_arr K17.1 xD_140) (fun y21 A21 hy21 ry21 => ?_)
      refine xcps4 (xj_get hy21 ry21 (i := 6) (by decide) (by decide)) (fun v22 ev22 bv22 dv22 => ?_)
      refine xi_iaload (pc' := 8) (v := v22) kc_12_7 rfl A21 (by decide) rfl (xi_in (by decide) (by rw [hy21]; decide)) ev22 ?_
      refine xi_iconst (pc' := 9) (v := 1) kc_12_8 rfl rfl ?_
      refine xcps2 (α := Int32) ((v22 : Int32) + 1) (fun v23 ev23 => ?_)
      have rv23 := xc_rng v23
      refine xi_iadd (pc' := 10) (v := v23) kc_12_9 rfl ev23 ?_
      refine xcps4 (xj_set (v := v23) hy21 ry21 6 (by first | omega | decide) (by first | omega | decide)) (fun y24 s24 hy24 ry24 => ?_)
      refine xi_iastore (pc' := 11) (x' := y24) kc_12_10 rfl A21 rfl (xi_in (by decide) (by rw [hy21]; decide)) s24 (fun hh24 eh24 => ?_)
      have K25 := xk_pa K17 (xk_wa rfl) xD_140 hy24 ry24 eh24
      refine xi_iload_n (pc' := 12) (x := (-6)) kc_12_11 rfl rfl ?_
      refine xi_ireturn kc_12_12 mr_12 rfl ?_
      show xw J ov (d + 6) 34 (35, [(0, .ref 115), (1, .int x1)], [.int (-6)], hh24) _
      refine xi_ireturn kc_34_35 mr_34 rfl ?_
      have zcm6 : ((-6) : Int32).toInt = (-6) := by decide
      exact kk (-6) hh24 (by omega) K25
  · refine xi_cmf (pc' := 10) kc_34_7 rfl (xc_ge_f (X := x1.toInt) (Y := 1) rfl (by decide) (by omega)) ?_
    refine xi_aload_n (pc' := 11) (x := 115) kc_34_10 rfl rfl ?_
    refine xi_bipush (pc' := 13) (v := (-4)) kc_34_11 rfl rfl ?_
    refine xi_virtual (mj := 12) (as := [.int (-4)]) (st1 := []) (lv0 := [(0, .ref 115), (1, .int (-4))]) kc_34_13 rfl rfl rfl rfl rfl eh15.1 (Nat.le_of_ble_eq_true rfl) (hJ _ _ _ _ (by decide)) (xm_le ml_12 rfl) rfl ?_
    refine xi_aload_n (pc' := 1) (x := 115) kc_12_0 rfl rfl ?_
    refine xi_getfield (pc' := 4) (v := .ref 140) kc_12_1 rfl rfl rfl eh15.1 rfl ?_
    refine xi_iload_n (pc' := 5) (x := (-4)) kc_12_4 rfl rfl ?_
    refine xi_ineg (pc' := 6) (v := 4) kc_12_5 rfl rfl ?_
    refine xi_dup2 (pc' := 7) kc_12_6 rfl ⟨rfl, rfl⟩ ?_
    refine xcps4 (xk_arr K17.1 xD_140) (fun y26 A26 hy26 ry26 => ?_)
    refine xcps4 (xj_get hy26 ry26 (i := 4) (by decide) (by decide)) (fun v27 ev27 bv27 dv27 => ?_)
    refine xi_iaload (pc' := 8) (v := v27) kc_12_7 rfl A26 (by decide) rfl (xi_in (by decide) (by rw [hy26]; decide)) ev27 ?_
    refine xi_iconst (pc' := 9) (v := 1) kc_12_8 rfl rfl ?_
    refine xcps2 (α := Int32) ((v27 : Int32) + 1) (fun v28 ev28 => ?_)
    have rv28 := xc_rng v28
    refine xi_iadd (pc' := 10) (v := v28) kc_12_9 rfl ev28 ?_
    refine xcps4 (xj_set (v := v28) hy26 ry26 4 (by first | omega | decide) (by first | omega | decide)) (fun y29 s29 hy29 ry29 => ?_)
    refine xi_iastore (pc' := 11) (x' := y29) kc_12_10 rfl A26 rfl (xi_in (by decide) (by rw [hy26]; decide)) s29 (fun hh29 eh29 => ?_)
    have K30 := xk_pa K17 (xk_wa rfl) xD_140 hy29 ry29 eh29
    refine xi_iload_n (pc' := 12) (x := (-4)) kc_12_11 rfl rfl ?_
    refine xi_ireturn kc_12_12 mr_12 rfl ?_
    show xw J ov (d + 6) 34 (16, [(0, .ref 115), (1, .int x1)], [.int (-4)], hh29) _
    refine xi_ireturn kc_34_16 mr_34 rfl ?_
    have zcm4 : ((-4) : Int32).toInt = (-4) := by decide
    exact kk (-4) hh29 (by omega) K30
set_option maxHeartbeats 4000000 in
theorem lp_44_0 {J : xe_J} {ov : List (List Int32)} (hJ : ∀ d mj as h, mj ≠ xe_loff → J d mj as h = none) (hov1 : ov[1]? = some [10, 0, 0, 0, 0, 0]) (hov2 : ov[2]? = some [99, 30, 50, 50, 1, 99999]) {d : Nat} {Q : Option Value → xe_H → Prop} {hb : xe_H} (kk : (∀ h' : xe_H, xk [(0, 9), (115, 1), (83, 0), (29, 0), (31, 0), (33, 0), (35, 0), (37, 0), (39, 0), (41, 0), (43, 0), (45, 0), (47, 0), (49, 0), (51, 0), (125, 0), (29, 2), (31, 2), (33, 2), (35, 2), (37, 2), (39, 2), (41, 2), (43, 2), (45, 2), (47, 2), (49, 2), (51, 2), (127, 0), (1, 5), (115, 23)] hb h' → Q none h')) : ∀ m : Nat, (∀ (x1 : Int32) (x2 : Int32) (x3 : Int32) (h : xe_H), (0 ≤ x3.toInt ∧ x3.toInt ≤ 600) → xk [(0, 9), (115, 1), (83, 0), (29, 0), (31, 0), (33, 0), (35, 0), (37, 0), (39, 0), (41, 0), (43, 0), (45, 0), (47, 0), (49, 0), (51, 0), (125, 0), (29, 2), (31, 2), (33, 2), (35, 2), (37, 2), (39, 2), (41, 2), (43, 2), (45, 2), (47, 2), (49, 2), (51, 2), (127, 0), (1, 5), (115, 23)] hb h → (-1) * x3.toInt + 600 < (m : Int) → xw J ov (d + 1) 44 (6, [(0, .ref 115), (1, .int x1), (2, .int x2), (3, .int x3)], [], h) Q) := by
  intro m
  induction m with
  | zero =>
    intro x1 x2 x3 h b3 K hm; have rx1 := xc_rng x1; have rx2 := xc_rng x2; exfalso; omega
  | succ m ih =>
    have i0 := ih
    intro x1 x2 x3 h b3 K hm
    have rx1 := xc_rng x1
    have rx2 := xc_rng x2
    refine xi_iload_n (pc' := 7) (x := x3) kc_44_6 rfl rfl ?_
    refine xi_sipush (pc' := 10) (v := 600) kc_44_7 rfl rfl ?_
    by_cases c1 : 600 ≤ x3.toInt
    · refine xi_cmt (pc' := 77) kc_44_10 rfl (xc_ge_t (X := x3.toInt) (Y := 600) rfl (by decide) (by omega)) ?_
      refine xi_return kc_44_77 mr_44 ?_
      exact kk h K
    · refine xi_cmf (pc' := 13) kc_44_10 rfl (xc_ge_f (X := x3.toInt) (Y := 600) rfl (by decide) (by omega)) ?_
      refine xi_aload_n (pc' := 14) (x := 115) kc_44_13 rfl rfl ?_
      refine xp_115 K.1 (fun u2 u3 u4 u5 u6 u7 u8 u9 u10 u11 u12 u13 u14 bu2 bu3 bu4 bu5 bu6 bu7 bu8 bu9 bu10 bu11 bu12 bu13 bu14 A15 => ?_)
      refine xi_getfield (pc' := 17) (v := .ref 123) kc_44_14 rfl rfl rfl A15 rfl ?_
      refine xi_iload_n (pc' := 18) (x := x3) kc_44_17 rfl rfl ?_
      refine xcps4 (xk_arr K.1 xD_123) (fun y16 A16 hy16 ry16 => ?_)
      refine xcps4 (xj_get hy16 ry16 (i := x3) (by omega) (by omega)) (fun v17 ev17 bv17 dv17 => ?_)
      refine xi_iaload (pc' := 19) (v := v17) kc_44_18 rfl A16 (by decide) rfl (xi_in (by omega) (by rw [hy16]; omega)) ev17 ?_
      refine xi_bipush (pc' := 21) (v := 99) kc_44_19 rfl rfl ?_
      by_cases c18 : v17.toInt = 99
      · refine xi_cmf (pc' := 24) kc_44_21 rfl (xc_ne_f (X := v17.toInt) (Y := 99) rfl (by decide) (by omega)) ?_
        refine xi_iload_n (pc' := 25) (x := x1) kc_44_24 rfl rfl ?_
        refine xi_goto (pc' := 34) kc_44_25 rfl ?_
        refine xi_istore_n (pc' := 35) (lv' := [(1, .int x1), (0, .ref 115), (2, .int x2), (3, .int x3)]) kc_44_34 rfl rfl (xm_lt ml_44 rfl) ?_
        refine xi_aload_n (pc' := 36) (x := 115) kc_44_35 rfl rfl ?_
        refine xi_getfield (pc' := 39) (v := .ref 124) kc_44_36 rfl rfl rfl A15 rfl ?_
        refine xi_iload_n (pc' := 40) (x := x3) kc_44_39 rfl rfl ?_
        refine xcps4 (xk_arr K.1 xD_124) (fun y19 A19 hy19 ry19 => ?_)
        refine xcps4 (xj_get hy19 ry19 (i := x3) (by omega) (by omega)) (fun v20 ev20 bv20 dv20 => ?_)
        refine xi_iaload (pc' := 41) (v := v20) kc_44_40 rfl A19 (by decide) rfl (xi_in (by omega) (by rw [hy19]; omega)) ev20 ?_
        refine xi_bipush (pc' := 43) (v := 99) kc_44_41 rfl rfl ?_
        by_cases c21 : v20.toInt = 99
        · refine xi_cmf (pc' := 46) kc_44_43 rfl (xc_ne_f (X := v20.toInt) (Y := 99) rfl (by decide) (by omega)) ?_
          refine xi_iload_n (pc' := 47) (x := x2) kc_44_46 rfl rfl ?_
          refine xi_goto (pc' := 56) kc_44_47 rfl ?_
          refine xi_istore_n (pc' := 57) (lv' := [(2, .int x2), (1, .int x1), (0, .ref 115), (3, .int x3)]) kc_44_56 rfl rfl (xm_lt ml_44 rfl) ?_
          refine xi_aload_n (pc' := 58) (x := 115) kc_44_57 rfl rfl ?_
          refine xi_getfield (pc' := 61) (v := .ref 150) kc_44_58 rfl rfl rfl A15 rfl ?_
          refine xi_iload_n (pc' := 62) (x := x3) kc_44_61 rfl rfl ?_
          refine xi_iload_n (pc' := 63) (x := x1) kc_44_62 rfl rfl ?_
          refine xcps4 (xk_arr K.1 xD_150) (fun y22 A22 hy22 ry22 => ?_)
          refine xcps4 (xj_set (v := x1) hy22 ry22 x3 (by first | omega | decide) (by first | omega | decide)) (fun y23 s23 hy23 ry23 => ?_)
          refine xi_iastore (pc' := 64) (x' := y23) kc_44_63 rfl A22 rfl (xi_in (by omega) (by rw [hy22]; omega)) s23 (fun hh23 eh23 => ?_)
          have K24 := xk_pa K (xk_wa rfl) xD_150 hy23 ry23 eh23
          refine xi_aload_n (pc' := 65) (x := 115) kc_44_64 rfl rfl ?_
          have A25 := ((eh23.2.1 115 (by decide)).trans A15)
          refine xi_getfield (pc' := 68) (v := .ref 151) kc_44_65 rfl rfl rfl A25 rfl ?_
          refine xi_iload_n (pc' := 69) (x := x3) kc_44_68 rfl rfl ?_
          refine xi_iload_n (pc' := 70) (x := x2) kc_44_69 rfl rfl ?_
          refine xcps4 (xk_arr K24.1 xD_151) (fun y26 A26 hy26 ry26 => ?_)
          refine xcps4 (xj_set (v := x2) hy26 ry26 x3 (by first | omega | decide) (by first | omega | decide)) (fun y27 s27 hy27 ry27 => ?_)
          refine xi_iastore (pc' := 71) (x' := y27) kc_44_70 rfl A26 rfl (xi_in (by omega) (by rw [hy26]; omega)) s27 (fun hh27 eh27 => ?_)
          have K28 := xk_pa K24 (xk_wa rfl) xD_151 hy27 ry27 eh27
          refine xcps2 (α := Int32) (x3 + 1) (fun v29 ev29 => ?_)
          have zv29 : v29.toInt = (x3.toInt + 1) := by rw [← ev29]; exact (xz_add (X := x3.toInt) (Y := 1) rfl (by decide) (by omega) (by omega)).trans (by omega)
          refine xi_iinc (pc' := 74) (x := x3) (v := v29) (lv' := [(3, .int v29), (2, .int x2), (1, .int x1), (0, .ref 115)]) kc_44_71 rfl rfl ev29 rfl (xm_lt ml_44 rfl) ?_
          refine xi_goto (pc' := 6) kc_44_74 rfl ?_
          refine xw_lv (b := [(0, .ref 115), (1, .int x1), (2, .int x2), (3, .int v29)]) (lvS_cons (lvS_cons (lvS_cons (lvS_cons (lvS_nil (show ([3, 2, 1, 0] : List Nat).Nodup by decide)) rfl) rfl) rfl) rfl) ?_
          exact i0 x1 x2 v29 hh27 (by omega) K28 (by omega)
        · refine xi_cmt (pc' := 50) kc_44_43 rfl (xc_ne_t (X := v20.toInt) (Y := 99) rfl (by decide) (by omega)) ?_
          refine xi_aload_n (pc' := 51) (x := 115) kc_44_50 rfl rfl ?_
          refine xi_getfield (pc' := 54) (v := .ref 124) kc_44_51 rfl rfl rfl A15 rfl ?_
          refine xi_iload_n (pc' := 55) (x := x3) kc_44_54 rfl rfl ?_
          refine xi_iaload (pc' := 56) (v := v20) kc_44_55 rfl A19 (by decide) rfl (xi_in (by omega) (by rw [hy19]; omega)) ev20 ?_
          refine xi_istore_n (pc' := 57) (lv' := [(2, .int v20), (1, .int x1), (0, .ref 115), (3, .int x3)]) kc_44_56 rfl rfl (xm_lt ml_44 rfl) ?_
          refine xi_aload_n (pc' := 58) (x := 115) kc_44_57 rfl rfl ?_
          refine xi_getfield (pc' := 61) (v := .ref 150) kc_44_58 rfl rfl rfl A15 rfl ?_
          refine xi_iload_n (pc' := 62) (x := x3) kc_44_61 rfl rfl ?_
          refine xi_iload_n (pc' := 63) (x := x1) kc_44_62 rfl rfl ?_
          refine xcps4 (xk_arr K.1 xD_150) (fun y30 A30 hy30 ry30 => ?_)
          refine xcps4 (xj_set (v := x1) hy30 ry30 x3 (by first | omega | decide) (by first | omega | decide)) (fun y31 s31 hy31 ry31 => ?_)
          refine xi_iastore (pc' := 64) (x' := y31) kc_44_63 rfl A30 rfl (xi_in (by omega) (by rw [hy30]; omega)) s31 (fun hh31 eh31 => ?_)
          have K32 := xk_pa K (xk_wa rfl) xD_150 hy31 ry31 eh31
          refine xi_aload_n (pc' := 65) (x := 115) kc_44_64 rfl rfl ?_
          have A33 := ((eh31.2.1 115 (by decide)).trans A15)
          refine xi_getfield (pc' := 68) (v := .ref 151) kc_44_65 rfl rfl rfl A33 rfl ?_
          refine xi_iload_n (pc' := 69) (x := x3) kc_44_68 rfl rfl ?_
          refine xi_iload_n (pc' := 70) (x := v20) kc_44_69 rfl rfl ?_
          refine xcps4 (xk_arr K32.1 xD_151) (fun y34 A34 hy34 ry34 => ?_)
          refine xcps4 (xj_set (v := v20) hy34 ry34 x3 (by first | omega | decide) (by first | omega | decide)) (fun y35 s35 hy35 ry35 => ?_)
          refine xi_iastore (pc' := 71) (x' := y35) kc_44_70 rfl A34 rfl (xi_in (by omega) (by rw [hy34]; omega)) s35 (fun hh35 eh35 => ?_)
          have K36 := xk_pa K32 (xk_wa rfl) xD_151 hy35 ry35 eh35
          refine xcps2 (α := Int32) (x3 + 1) (fun v37 ev37 => ?_)
          have zv37 : v37.toInt = (x3.toInt + 1) := by rw [← ev37]; exact (xz_add (X := x3.toInt) (Y := 1) rfl (by decide) (by omega) (by omega)).trans (by omega)
          refine xi_iinc (pc' := 74) (x := x3) (v := v37) (lv' := [(3, .int v37), (2, .int v20), (1, .int x1), (0, .ref 115)]) kc_44_71 rfl rfl ev37 rfl (xm_lt ml_44 rfl) ?_
          refine xi_goto (pc' := 6) kc_44_74 rfl ?_
          refine xw_lv (b := [(0, .ref 115), (1, .int x1), (2, .int v20), (3, .int v37)]) (lvS_cons (lvS_cons (lvS_cons (lvS_cons (lvS_nil (show ([3, 2, 1, 0] : List Nat).Nodup by decide)) rfl) rfl) rfl) rfl) ?_
          exact i0 x1 v20 v37 hh35 (by omega) K36 (by omega)
      · refine xi_cmt (pc' := 28) kc_44_21 rfl (xc_ne_t (X := v17.toInt) (Y := 99) rfl (by decide) (by omega)) ?_
        refine xi_aload_n (pc' := 29) (x := 115) kc_44_28 rfl rfl ?_
        refine xi_getfield (pc' := 32) (v := .ref 123) kc_44_29 rfl rfl rfl A15 rfl ?_
        refine xi_iload_n (pc' := 33) (x := x3) kc_44_32 rfl rfl ?_
        refine xi_iaload (pc' := 34) (v := v17) kc_44_33 rfl A16 (by decide) rfl (xi_in (by omega) (by rw [hy16]; omega)) ev17 ?_
        refine xi_istore_n (pc' := 35) (lv' := [(1, .int v17), (0, .ref 115), (2, .int x2), (3, .int x3)]) kc_44_34 rfl rfl (xm_lt ml_44 rfl) ?_
        refine xi_aload_n (pc' := 36) (x := 115) kc_44_35 rfl rfl ?_
        refine xi_getfield (pc' := 39) (v := .ref 124) kc_44_36 rfl rfl rfl A15 rfl ?_
        refine xi_iload_n (pc' := 40) (x := x3) kc_44_39 rfl rfl ?_
        refine xcps4 (xk_arr K.1 xD_124) (fun y38 A38 hy38 ry38 => ?_)
        refine xcps4 (xj_get hy38 ry38 (i := x3) (by omega) (by omega)) (fun v39 ev39 bv39 dv39 => ?_)
        refine xi_iaload (pc' := 41) (v := v39) kc_44_40 rfl A38 (by decide) rfl (xi_in (by omega) (by rw [hy38]; omega)) ev39 ?_
        refine xi_bipush (pc' := 43) (v := 99) kc_44_41 rfl rfl ?_
        by_cases c40 : v39.toInt = 99
        · refine xi_cmf (pc' := 46) kc_44_43 rfl (xc_ne_f (X := v39.toInt) (Y := 99) rfl (by decide) (by omega)) ?_
          refine xi_iload_n (pc' := 47) (x := x2) kc_44_46 rfl rfl ?_
          refine xi_goto (pc' := 56) kc_44_47 rfl ?_
          refine xi_istore_n (pc' := 57) (lv' := [(2, .int x2), (1, .int v17), (0, .ref 115), (3, .int x3)]) kc_44_56 rfl rfl (xm_lt ml_44 rfl) ?_
          refine xi_aload_n (pc' := 58) (x := 115) kc_44_57 rfl rfl ?_
          refine xi_getfield (pc' := 61) (v := .ref 150) kc_44_58 rfl rfl rfl A15 rfl ?_
          refine xi_iload_n (pc' := 62) (x := x3) kc_44_61 rfl rfl ?_
          refine xi_iload_n (pc' := 63) (x := v17) kc_44_62 rfl rfl ?_
          refine xcps4 (xk_arr K.1 xD_150) (fun y41 A41 hy41 ry41 => ?_)
          refine xcps4 (xj_set (v := v17) hy41 ry41 x3 (by first | omega | decide) (by first | omega | decide)) (fun y42 s42 hy42 ry42 => ?_)
          refine xi_iastore (pc' := 64) (x' := y42) kc_44_63 rfl A41 rfl (xi_in (by omega) (by rw [hy41]; omega)) s42 (fun hh42 eh42 => ?_)
          have K43 := xk_pa K (xk_wa rfl) xD_150 hy42 ry42 eh42
          refine xi_aload_n (pc' := 65) (x := 115) kc_44_64 rfl rfl ?_
          have A44 := ((eh42.2.1 115 (by decide)).trans A15)
          refine xi_getfield (pc' := 68) (v := .ref 151) kc_44_65 rfl rfl rfl A44 rfl ?_
          refine xi_iload_n (pc' := 69) (x := x3) kc_44_68 rfl rfl ?_
          refine xi_iload_n (pc' := 70) (x := x2) kc_44_69 rfl rfl ?_
          refine xcps4 (xk_arr K43.1 xD_151) (fun y45 A45 hy45 ry45 => ?_)
          refine xcps4 (xj_set (v := x2) hy45 ry45 x3 (by first | omega | decide) (by first | omega | decide)) (fun y46 s46 hy46 ry46 => ?_)
          refine xi_iastore (pc' := 71) (x' := y46) kc_44_70 rfl A45 rfl (xi_in (by omega) (by rw [hy45]; omega)) s46 (fun hh46 eh46 => ?_)
          have K47 := xk_pa K43 (xk_wa rfl) xD_151 hy46 ry46 eh46
          refine xcps2 (α := Int32) (x3 + 1) (fun v48 ev48 => ?_)
          have zv48 : v48.toInt = (x3.toInt + 1) := by rw [← ev48]; exact (xz_add (X := x3.toInt) (Y := 1) rfl (by decide) (by omega) (by omega)).trans (by omega)
          refine xi_iinc (pc' := 74) (x := x3) (v := v48) (lv' := [(3, .int v48), (2, .int x2), (1, .int v17), (0, .ref 115)]) kc_44_71 rfl rfl ev48 rfl (xm_lt ml_44 rfl) ?_
          refine xi_goto (pc' := 6) kc_44_74 rfl ?_
          refine xw_lv (b := [(0, .ref 115), (1, .int v17), (2, .int x2), (3, .int v48)]) (lvS_cons (lvS_cons (lvS_cons (lvS_cons (lvS_nil (show ([3, 2, 1, 0] : List Nat).Nodup by decide)) rfl) rfl) rfl) rfl) ?_
          exact i0 v17 x2 v48 hh46 (by omega) K47 (by omega)
        · refine xi_cmt (pc' := 50) kc_44_43 rfl (xc_ne_t (X := v39.toInt) (Y := 99) rfl (by decide) (by omega)) ?_
          refine xi_aload_n (pc' := 51) (x := 115) kc_44_50 rfl rfl ?_
          refine xi_getfield (pc' := 54) (v := .ref 124) kc_44_51 rfl rfl rfl A15 rfl ?_
          refine xi_iload_n (pc' := 55) (x := x3) kc_44_54 rfl rfl ?_
          refine xi_iaload (pc' := 56) (v := v39) kc_44_55 rfl A38 (by decide) rfl (xi_in (by omega) (by rw [hy38]; omega)) ev39 ?_
          refine xi_istore_n (pc' := 57) (lv' := [(2, .int v39), (1, .int v17), (0, .ref 115), (3, .int x3)]) kc_44_56 rfl rfl (xm_lt ml_44 rfl) ?_
          refine xi_aload_n (pc' := 58) (x := 115) kc_44_57 rfl rfl ?_
          refine xi_getfield (pc' := 61) (v := .ref 150) kc_44_58 rfl rfl rfl A15 rfl ?_
          refine xi_iload_n (pc' := 62) (x := x3) kc_44_61 rfl rfl ?_
          refine xi_iload_n (pc' := 63) (x := v17) kc_44_62 rfl rfl ?_
          refine xcps4 (xk_arr K.1 xD_150) (fun y49 A49 hy49 ry49 => ?_)
          refine xcps4 (xj_set (v := v17) hy49 ry49 x3 (by first | omega | decide) (by first | omega | decide)) (fun y50 s50 hy50 ry50 => ?_)
          refine xi_iastore (pc' := 64) (x' := y50) kc_44_63 rfl A49 rfl (xi_in (by omega) (by rw [hy49]; omega)) s50 (fun hh50 eh50 => ?_)
          have K51 := xk_pa K (xk_wa rfl) xD_150 hy50 ry50 eh50
          refine xi_aload_n (pc' := 65) (x := 115) kc_44_64 rfl rfl ?_
          have A52 := ((eh50.2.1 115 (by decide)).trans A15)
          refine xi_getfield (pc' := 68) (v := .ref 151) kc_44_65 rfl rfl rfl A52 rfl ?_
          refine xi_iload_n (pc' := 69) (x := x3) kc_44_68 rfl rfl ?_
          refine xi_iload_n (pc' := 70) (x := v39) kc_44_69 rfl rfl ?_
          refine xcps4 (xk_arr K51.1 xD_151) (fun y53 A53 hy53 ry53 => ?_)
          refine xcps4 (xj_set (v := v39) hy53 ry53 x3 (by first | omega | decide) (by first | omega | decide)) (fun y54 s54 hy54 ry54 => ?_)
          refine xi_iastore (pc' := 71) (x' := y54) kc_44_70 rfl A53 rfl (xi_in (by omega) (by rw [hy53]; omega)) s54 (fun hh54 eh54 => ?_)
          have K55 := xk_pa K51 (xk_wa rfl) xD_151 hy54 ry54 eh54
          refine xcps2 (α := Int32) (x3 + 1) (fun v56 ev56 => ?_)
          have zv56 : v56.toInt = (x3.toInt + 1) := by rw [← ev56]; exact (xz_add (X := x3.toInt) (Y := 1) rfl (by decide) (by omega) (by omega)).trans (by omega)
          refine xi_iinc (pc' := 74) (x := x3) (v := v56) (lv' := [(3, .int v56), (2, .int v39), (1, .int v17), (0, .ref 115)]) kc_44_71 rfl rfl ev56 rfl (xm_lt ml_44 rfl) ?_
          refine xi_goto (pc' := 6) kc_44_74 rfl ?_
          refine xw_lv (b := [(0, .ref 115), (1, .int v17), (2, .int v39), (3, .int v56)]) (lvS_cons (lvS_cons (lvS_cons (lvS_cons (lvS_nil (show ([3, 2, 1, 0] : List Nat).Nodup by decide)) rfl) rfl) rfl) rfl) ?_
          exact i0 v17 v39 v56 hh54 (by omega) K55 (by omega)
set_option maxHeartbeats 4000000 in
theorem mt_44_0 {J : xe_J} {ov : List (List Int32)} (hJ : ∀ d mj as h, mj ≠ xe_loff → J d mj as h = none) (hov1 : ov[1]? = some [10, 0, 0, 0, 0, 0]) (hov2 : ov[2]? = some [99, 30, 50, 50, 1, 99999]) {d : Nat} {Q : Option Value → xe_H → Prop} {h : xe_H} (T : xt h) (kk : (∀ h' : xe_H, xk [(0, 9), (115, 1), (83, 0), (29, 0), (31, 0), (33, 0), (35, 0), (37, 0), (39, 0), (41, 0), (43, 0), (45, 0), (47, 0), (49, 0), (51, 0), (125, 0), (29, 2), (31, 2), (33, 2), (35, 2), (37, 2), (39, 2), (41, 2), (43, 2), (45, 2), (47, 2), (49, 2), (51, 2), (127, 0), (1, 5), (115, 23)] h h' → Q none h')) : xw J ov (d + 1) 44 (0, [(0, .ref 115)], [], h) Q := by
  have K : xk [(0, 9), (115, 1), (83, 0), (29, 0), (31, 0), (33, 0), (35, 0), (37, 0), (39, 0), (41, 0), (43, 0), (45, 0), (47, 0), (49, 0), (51, 0), (125, 0), (29, 2), (31, 2), (33, 2), (35, 2), (37, 2), (39, 2), (41, 2), (43, 2), (45, 2), (47, 2), (49, 2), (51, 2), (127, 0), (1, 5), (115, 23)] h h := xk_re T
  refine xi_iconst (pc' := 1) (v := 5) kc_44_0 rfl rfl ?_
  refine xi_istore_n (pc' := 2) (lv' := [(1, .int 5), (0, .ref 115)]) kc_44_1 rfl rfl (xm_lt ml_44 rfl) ?_
  refine xi_iconst (pc' := 3) (v := 0) kc_44_2 rfl rfl ?_
  refine xi_istore_n (pc' := 4) (lv' := [(2, .int 0), (1, .int 5), (0, .ref 115)]) kc_44_3 rfl rfl (xm_lt ml_44 rfl) ?_
  refine xi_iconst (pc' := 5) (v := 0) kc_44_4 rfl rfl ?_
  refine xi_istore_n (pc' := 6) (lv' := [(3, .int 0), (2, .int 0), (1, .int 5), (0, .ref 115)]) kc_44_5 rfl rfl (xm_lt ml_44 rfl) ?_
  have zc0 : (0 : Int32).toInt = 0 := by decide
  have zc5 : (5 : Int32).toInt = 5 := by decide
  refine xw_lv (b := [(0, .ref 115), (1, .int 5), (2, .int 0), (3, .int 0)]) (lvS_cons (lvS_cons (lvS_cons (lvS_cons (lvS_nil (show ([3, 2, 1, 0] : List Nat).Nodup by decide)) rfl) rfl) rfl) rfl) ?_
  exact (lp_44_0 hJ hov1 hov2 (d := d) (hb := h) (fun h9 K9 => kk h9 (xk_tr K K9 rfl)) 601) 5 0 0 h (by omega) (xk_re K.1) (by omega)
set_option maxHeartbeats 4000000 in
theorem lp_45_0 {J : xe_J} {ov : List (List Int32)} (hJ : ∀ d mj as h, mj ≠ xe_loff → J d mj as h = none) (hov1 : ov[1]? = some [10, 0, 0, 0, 0, 0]) (hov2 : ov[2]? = some [99, 30, 50, 50, 1, 99999]) {d : Nat} {Q : Option Value → xe_H → Prop} {hb : xe_H} (kk : (∀ (r : Int64) (h' : xe_H), xk [(0, 9), (115, 1), (83, 0), (29, 0), (31, 0), (33, 0), (35, 0), (37, 0), (39, 0), (41, 0), (43, 0), (45, 0), (47, 0), (49, 0), (51, 0), (125, 0), (29, 2), (31, 2), (33, 2), (35, 2), (37, 2), (39, 2), (41, 2), (43, 2), (45, 2), (47, 2), (49, 2), (51, 2), (127, 0), (1, 5), (115, 23)] hb h' → Q (some (.long r)) h')) : ∀ m : Nat, (∀ (x1 : Int32) (w2 : Int64) (x4 : Int32) (x5 : Int32) (h : xe_H), (0 ≤ x1.toInt ∧ x1.toInt ≤ 63) → (0 ≤ x4.toInt ∧ x4.toInt ≤ 0) → (0 ≤ x5.toInt ∧ x5.toInt ≤ 6) → xk [(0, 9), (115, 1), (83, 0), (29, 0), (31, 0), (33, 0), (35, 0), (37, 0), (39, 0), (41, 0), (43, 0), (45, 0), (47, 0), (49, 0), (51, 0), (125, 0), (29, 2), (31, 2), (33, 2), (35, 2), (37, 2), (39, 2), (41, 2), (43, 2), (45, 2), (47, 2), (49, 2), (51, 2), (127, 0), (1, 5), (115, 23)] hb h → (-1) * x5.toInt + 37343 < (m : Int) → xw J ov (d + 5) 45 (8, [(0, .ref 115), (1, .int x1), (2, .long w2), (4, .int x4), (5, .int x5)], [], h) Q) ∧ (∀ (x1 : Int32) (w2 : Int64) (x4 : Int32) (x5 : Int32) (h : xe_H), (0 ≤ x1.toInt ∧ x1.toInt ≤ 63) → (0 ≤ x4.toInt ∧ x4.toInt ≤ 0) → (0 ≤ x5.toInt ∧ x5.toInt ≤ 12) → xk [(0, 9), (115, 1), (83, 0), (29, 0), (31, 0), (33, 0), (35, 0), (37, 0), (39, 0), (41, 0), (43, 0), (45, 0), (47, 0), (49, 0), (51, 0), (125, 0), (29, 2), (31, 2), (33, 2), (35, 2), (37, 2), (39, 2), (41, 2), (43, 2), (45, 2), (47, 2), (49, 2), (51, 2), (127, 0), (1, 5), (115, 23)] hb h → (-1) * x5.toInt + 37336 < (m : Int) → xw J ov (d + 5) 45 (32, [(0, .ref 115), (1, .int x1), (2, .long w2), (4, .int x4), (5, .int x5)], [], h) Q) ∧ (∀ (x1 : Int32) (w2 : Int64) (x4 : Int32) (x5 : Int32) (h : xe_H), (0 ≤ x1.toInt ∧ x1.toInt ≤ 63) → (0 ≤ x4.toInt ∧ x4.toInt ≤ 60) → (0 ≤ x5.toInt ∧ x5.toInt ≤ 601) → xk [(0, 9), (115, 1), (83, 0), (29, 0), (31, 0), (33, 0), (35, 0), (37, 0), (39, 0), (41, 0), (43, 0), (45, 0), (47, 0), (49, 0), (51, 0), (125, 0), (29, 2), (31, 2), (33, 2), (35, 2), (37, 2), (39, 2), (41, 2), (43, 2), (45, 2), (47, 2), (49, 2), (51, 2), (127, 0), (1, 5), (115, 23)] hb h → (-62) * x5.toInt + 37323 < (m : Int) → xw J ov (d + 5) 45 (56, [(0, .ref 115), (1, .int x1), (2, .long w2), (4, .int x4), (5, .int x5)], [], h) Q) ∧ (∀ (x1 : Int32) (w2 : Int64) (x4 : Int32) (x5 : Int32) (h : xe_H), (0 ≤ x1.toInt ∧ x1.toInt ≤ 63) → (0 ≤ x4.toInt ∧ x4.toInt ≤ 60) → (0 ≤ x5.toInt ∧ x5.toInt ≤ 600) → xk [(0, 9), (115, 1), (83, 0), (29, 0), (31, 0), (33, 0), (35, 0), (37, 0), (39, 0), (41, 0), (43, 0), (45, 0), (47, 0), (49, 0), (51, 0), (125, 0), (29, 2), (31, 2), (33, 2), (35, 2), (37, 2), (39, 2), (41, 2), (43, 2), (45, 2), (47, 2), (49, 2), (51, 2), (127, 0), (1, 5), (115, 23)] hb h → (-62) * x5.toInt + (-1) * x4.toInt + 37322 < (m : Int) → xw J ov (d + 5) 45 (65, [(0, .ref 115), (1, .int x1), (2, .long w2), (4, .int x4), (5, .int x5)], [], h) Q) := by
  intro m
  induction m with
  | zero =>
    refine ⟨?_, ?_, ?_, ?_⟩
    · intro x1 w2 x4 x5 h b1 b4 b5 K hm; exfalso; omega
    · intro x1 w2 x4 x5 h b1 b4 b5 K hm; exfalso; omega
    · intro x1 w2 x4 x5 h b1 b4 b5 K hm; exfalso; omega
    · intro x1 w2 x4 x5 h b1 b4 b5 K hm; exfalso; omega
  | succ m ih =>
    obtain ⟨i0, i1, i2, i3⟩ := ih
    refine ⟨?_, ?_, ?_, ?_⟩
    · intro x1 w2 x4 x5 h b1 b4 b5 K hm
      refine xi_iload (pc' := 10) (x := x5) kc_45_8 rfl rfl ?_
      refine xi_bipush (pc' := 12) (v := 6) kc_45_10 rfl rfl ?_
      by_cases c1 : 6 ≤ x5.toInt
      · refine xi_cmt (pc' := 29) kc_45_12 rfl (xc_ge_t (X := x5.toInt) (Y := 6) rfl (by decide) (by omega)) ?_
        refine xi_iconst (pc' := 30) (v := 0) kc_45_29 rfl rfl ?_
        refine xi_istore (pc' := 32) (lv' := [(5, .int 0), (0, .ref 115), (1, .int x1), (2, .long w2), (4, .int x4)]) kc_45_30 rfl rfl (xm_lt ml_45 rfl) ?_
        have zc0 : (0 : Int32).toInt = 0 := by decide
        refine xw_lv (b := [(0, .ref 115), (1, .int x1), (2, .long w2), (4, .int x4), (5, .int 0)]) (lvS_cons (lvS_cons (lvS_cons (lvS_cons (lvS_cons (lvS_nil (show ([5, 0, 1, 2, 4] : List Nat).Nodup by decide)) rfl) rfl) rfl) rfl) rfl) ?_
        exact i1 x1 w2 x4 0 h (by omega) (by omega) (by omega) K (by omega)
      · refine xi_cmf (pc' := 15) kc_45_12 rfl (xc_ge_f (X := x5.toInt) (Y := 6) rfl (by decide) (by omega)) ?_
        refine xi_aload_n (pc' := 16) (x := 115) kc_45_15 rfl rfl ?_
        refine xp_115 K.1 (fun u2 u3 u4 u5 u6 u7 u8 u9 u10 u11 u12 u13 u14 bu2 bu3 bu4 bu5 bu6 bu7 bu8 bu9 bu10 bu11 bu12 bu13 bu14 A15 => ?_)
        refine xi_getfield (pc' := 19) (v := .ref 141) kc_45_16 rfl rfl rfl A15 rfl ?_
        refine xi_iload (pc' := 21) (x := x5) kc_45_19 rfl rfl ?_
        refine xi_iconst (pc' := 22) (v := 0) kc_45_21 rfl rfl ?_
        refine xcps4 (xk_arr K.1 xD_141) (fun y16 A16 hy16 ry16 => ?_)
        refine xcps4 (xj_set (v := 0) hy16 ry16 x5 (by first | omega | decide) (by first | omega | decide)) (fun y17 s17 hy17 ry17 => ?_)
        refine xi_iastore (pc' := 23) (x' := y17) kc_45_22 rfl A16 rfl (xi_in (by omega) (by rw [hy16]; omega)) s17 (fun hh17 eh17 => ?_)
        have K18 := xk_pa K (xk_wa rfl) xD_141 hy17 ry17 eh17
        refine xcps2 (α := Int32) (x5 + 1) (fun v19 ev19 => ?_)
        have zv19 : v19.toInt = (x5.toInt + 1) := by rw [← ev19]; exact (xz_add (X := x5.toInt) (Y := 1) rfl (by decide) (by omega) (by omega)).trans (by omega)
        refine xi_iinc (pc' := 26) (x := x5) (v := v19) (lv' := [(5, .int v19), (0, .ref 115), (1, .int x1), (2, .long w2), (4, .int x4)]) kc_45_23 rfl rfl ev19 rfl (xm_lt ml_45 rfl) ?_
        refine xi_goto (pc' := 8) kc_45_26 rfl ?_
        refine xw_lv (b := [(0, .ref 115), (1, .int x1), (2, .long w2), (4, .int x4), (5, .int v19)]) (lvS_cons (lvS_cons (lvS_cons (lvS_cons (lvS_cons (lvS_nil (show ([5, 0, 1, 2, 4] : List Nat).Nodup by decide)) rfl) rfl) rfl) rfl) rfl) ?_
        exact i0 x1 w2 x4 v19 hh17 (by omega) (by omega) (by omega) K18 (by omega)
    · intro x1 w2 x4 x5 h b1 b4 b5 K hm
      refine xi_iload (pc' := 34) (x := x5) kc_45_32 rfl rfl ?_
      refine xi_bipush (pc' := 36) (v := 12) kc_45_34 rfl rfl ?_
      by_cases c1 : 12 ≤ x5.toInt
      · refine xi_cmt (pc' := 53) kc_45_36 rfl (xc_ge_t (X := x5.toInt) (Y := 12) rfl (by decide) (by omega)) ?_
        refine xi_iconst (pc' := 54) (v := 0) kc_45_53 rfl rfl ?_
        refine xi_istore (pc' := 56) (lv' := [(5, .int 0), (0, .ref 115), (1, .int x1), (2, .long w2), (4, .int x4)]) kc_45_54 rfl rfl (xm_lt ml_45 rfl) ?_
        have zc0 : (0 : Int32).toInt = 0 := by decide
        refine xw_lv (b := [(0, .ref 115), (1, .int x1), (2, .long w2), (4, .int x4), (5, .int 0)]) (lvS_cons (lvS_cons (lvS_cons (lvS_cons (lvS_cons (lvS_nil (show ([5, 0, 1, 2, 4] : List Nat).Nodup by decide)) rfl) rfl) rfl) rfl) rfl) ?_
        exact i2 x1 w2 x4 0 h (by omega) (by omega) (by omega) K (by omega)
      · refine xi_cmf (pc' := 39) kc_45_36 rfl (xc_ge_f (X := x5.toInt) (Y := 12) rfl (by decide) (by omega)) ?_
        refine xi_aload_n (pc' := 40) (x := 115) kc_45_39 rfl rfl ?_
        refine xp_115 K.1 (fun u2 u3 u4 u5 u6 u7 u8 u9 u10 u11 u12 u13 u14 bu2 bu3 bu4 bu5 bu6 bu7 bu8 bu9 bu10 bu11 bu12 bu13 bu14 A15 => ?_)
        refine xi_getfield (pc' := 43) (v := .ref 142) kc_45_40 rfl rfl rfl A15 rfl ?_
        refine xi_iload (pc' := 45) (x := x5) kc_45_43 rfl rfl ?_
        refine xi_iconst (pc' := 46) (v := 0) kc_45_45 rfl rfl ?_
        refine xcps4 (xk_arr K.1 xD_142) (fun y16 A16 hy16 ry16 => ?_)
        refine xcps4 (xj_set (v := 0) hy16 ry16 x5 (by first | omega | decide) (by first | omega | decide)) (fun y17 s17 hy17 ry17 => ?_)
        refine xi_iastore (pc' := 47) (x' := y17) kc_45_46 rfl A16 rfl (xi_in (by omega) (by rw [hy16]; omega)) s17 (fun hh17 eh17 => ?_)
        have K18 := xk_pa K (xk_wa rfl) xD_142 hy17 ry17 eh17
        refine xcps2 (α := Int32) (x5 + 1) (fun v19 ev19 => ?_)
        have zv19 : v19.toInt = (x5.toInt + 1) := by rw [← ev19]; exact (xz_add (X := x5.toInt) (Y := 1) rfl (by decide) (by omega) (by omega)).trans (by omega)
        refine xi_iinc (pc' := 50) (x := x5) (v := v19) (lv' := [(5, .int v19), (0, .ref 115), (1, .int x1), (2, .long w2), (4, .int x4)]) kc_45_47 rfl rfl ev19 rfl (xm_lt ml_45 rfl) ?_
        refine xi_goto (pc' := 32) kc_45_50 rfl ?_
        refine xw_lv (b := [(0, .ref 115), (1, .int x1), (2, .long w2), (4, .int x4), (5, .int v19)]) (lvS_cons (lvS_cons (lvS_cons (lvS_cons (lvS_cons (lvS_nil (show ([5, 0, 1, 2, 4] : List Nat).Nodup by decide)) rfl) rfl) rfl) rfl) rfl) ?_
        exact i1 x1 w2 x4 v19 hh17 (by omega) (by omega) (by omega) K18 (by omega)
    · intro x1 w2 x4 x5 h b1 b4 b5 K hm
      refine xi_iload (pc' := 58) (x := x5) kc_45_56 rfl rfl ?_
      refine xi_aload_n (pc' := 59) (x := 115) kc_45_58 rfl rfl ?_
      refine xp_115 K.1 (fun u1 u2 u3 u4 u5 u6 u7 u8 u9 u10 u11 u12 u13 bu1 bu2 bu3 bu4 bu5 bu6 bu7 bu8 bu9 bu10 bu11 bu12 bu13 A14 => ?_)
      refine xi_getfield (pc' := 62) (v := .int u2) kc_45_59 rfl rfl rfl A14 rfl ?_
      by_cases c15 : u2.toInt < x5.toInt
      · refine xi_cmt (pc' := 221) kc_45_62 rfl (xc_gt_t (X := x5.toInt) (Y := u2.toInt) rfl rfl (by omega)) ?_
        refine xi_lload_n (pc' := 222) (x := w2) kc_45_221 rfl rfl ?_
        refine xi_lreturn kc_45_222 mr_45 ?_
        exact kk w2 h K
      · refine xi_cmf (pc' := 65) kc_45_62 rfl (xc_gt_f (X := x5.toInt) (Y := u2.toInt) rfl rfl (by omega)) ?_
        refine xw_lv (b := [(0, .ref 115), (1, .int x1), (2, .long w2), (4, .int x4), (5, .int x5)]) (lvS_cons (lvS_cons (lvS_cons (lvS_cons (lvS_cons (lvS_nil (show ([0, 1, 2, 4, 5] : List Nat).Nodup by decide)) rfl) rfl) rfl) rfl) rfl) ?_
        exact i3 x1 w2 x4 x5 h (by omega) (by omega) (by omega) K (by omega)
    · intro x1 w2 x4 x5 h b1 b4 b5 K hm
      refine xi_iload (pc' := 67) (x := x4) kc_45_65 rfl rfl ?_
      refine xi_aload_n (pc' := 68) (x := 115) kc_45_67 rfl rfl ?_
      refine xp_115 K.1 (fun u1 u2 u3 u4 u5 u6 u7 u8 u9 u10 u11 u12 u13 bu1 bu2 bu3 bu4 bu5 bu6 bu7 bu8 bu9 bu10 bu11 bu12 bu13 A14 => ?_)
      refine xi_getfield (pc' := 71) (v := .int u4) kc_45_68 rfl rfl rfl A14 rfl ?_
      by_cases c15 : u4.toInt ≤ x4.toInt
      · refine xi_cmt (pc' := 176) kc_45_71 rfl (xc_ge_t (X := x4.toInt) (Y := u4.toInt) rfl rfl (by omega)) ?_
        refine xi_iload (pc' := 178) (x := x5) kc_45_176 rfl rfl ?_
        refine xi_aload_n (pc' := 179) (x := 115) kc_45_178 rfl rfl ?_
        refine xi_getfield (pc' := 182) (v := .int u2) kc_45_179 rfl rfl rfl A14 rfl ?_
        by_cases c16 : u2.toInt ≤ x5.toInt
        · refine xi_cmt (pc' := 215) kc_45_182 rfl (xc_ge_t (X := x5.toInt) (Y := u2.toInt) rfl rfl (by omega)) ?_
          refine xcps2 (α := Int32) (x5 + 1) (fun v17 ev17 => ?_)
          have zv17 : v17.toInt = (x5.toInt + 1) := by rw [← ev17]; exact (xz_add (X := x5.toInt) (Y := 1) rfl (by decide) (by omega) (by omega)).trans (by omega)
          refine xi_iinc (pc' := 218) (x := x5) (v := v17) (lv' := [(5, .int v17), (0, .ref 115), (1, .int x1), (2, .long w2), (4, .int x4)]) kc_45_215 rfl rfl ev17 rfl (xm_lt ml_45 rfl) ?_
          refine xi_goto (pc' := 56) kc_45_218 rfl ?_
          refine xw_lv (b := [(0, .ref 115), (1, .int x1), (2, .long w2), (4, .int x4), (5, .int v17)]) (lvS_cons (lvS_cons (lvS_cons (lvS_cons (lvS_cons (lvS_nil (show ([5, 0, 1, 2, 4] : List Nat).Nodup by decide)) rfl) rfl) rfl) rfl) rfl) ?_
          exact i2 x1 w2 x4 v17 h (by omega) (by omega) (by omega) K (by omega)
        · refine xi_cmf (pc' := 185) kc_45_182 rfl (xc_ge_f (X := x5.toInt) (Y := u2.toInt) rfl rfl (by omega)) ?_
          refine xi_aload_n (pc' := 186) (x := 115) kc_45_185 rfl rfl ?_
          refine xi_aload_n (pc' := 187) (x := 115) kc_45_186 rfl rfl ?_
          refine xi_getfield (pc' := 190) (v := .ref 150) kc_45_187 rfl rfl rfl A14 rfl ?_
          refine xi_iload (pc' := 192) (x := x5) kc_45_190 rfl rfl ?_
          refine xcps4 (xk_arr K.1 xD_150) (fun y18 A18 hy18 ry18 => ?_)
          refine xcps4 (xj_get hy18 ry18 (i := x5) (by omega) (by omega)) (fun v19 ev19 bv19 dv19 => ?_)
          refine xi_iaload (pc' := 193) (v := v19) kc_45_192 rfl A18 (by decide) rfl (xi_in (by omega) (by rw [hy18]; omega)) ev19 ?_
          refine xi_putfield (pc' := 196) (fs' := [.int u1, .int u2, .ref 116, .ref 117, .ref 118, .ref 119, .ref 120, .ref 121, .ref 122, .ref 123, .ref 124, .ref 125, .ref 126, .ref 127, .ref 128, .ref 129, .int u3, .ref 130, .int u4, .ref 131, .ref 132, .ref 133, .ref 134, .int u5, .ref 135, .ref 136, .ref 137, .ref 138, .ref 139, .ref 140, .ref 141, .ref 142, .int v19, .int u7, .int u8, .ref 143, .ref 144, .ref 145, .ref 146, .ref 147, .ref 148, .int u9, .ref 149, .ref 150, .ref 151, .int u10, .ref 152, .ref 153, .ref 154, .ref 155, .ref 156, .ref 157, .ref 158, .ref 159, .int u11, .ref 160, .int u12, .ref 161, .ref 162, .ref 163, .ref 164, .int u13, .ref 165, .ref 166]) kc_45_193 rfl rfl rfl A14 rfl rfl rfl (Nat.le_of_ble_eq_true rfl) rfl (fun hh21 eh20 => ?_)
          have K22 := xk_pf (k := 32) (v := v19) K (xk_wf rfl) xD_115 A14 rfl (by first | omega | decide) (by first | omega | decide) eh20 rfl
          refine xi_aload_n (pc' := 197) (x := 115) kc_45_196 rfl rfl ?_
          refine xi_aload_n (pc' := 198) (x := 115) kc_45_197 rfl rfl ?_
          refine xi_getfield (pc' := 201) (v := .ref 151) kc_45_198 rfl rfl rfl eh20.1 rfl ?_
          refine xi_iload (pc' := 203) (x := x5) kc_45_201 rfl rfl ?_
          refine xcps4 (xk_arr K22.1 xD_151) (fun y23 A23 hy23 ry23 => ?_)
          refine xcps4 (xj_get hy23 ry23 (i := x5) (by omega) (by omega)) (fun v24 ev24 bv24 dv24 => ?_)
          refine xi_iaload (pc' := 204) (v := v24) kc_45_203 rfl A23 (by decide) rfl (xi_in (by omega) (by rw [hy23]; omega)) ev24 ?_
          refine xi_putfield (pc' := 207) (fs' := [.int u1, .int u2, .ref 116, .ref 117, .ref 118, .ref 119, .ref 120, .ref 121, .ref 122, .ref 123, .ref 124, .ref 125, .ref 126, .ref 127, .ref 128, .ref 129, .int u3, .ref 130, .int u4, .ref 131, .ref 132, .ref 133, .ref 134, .int u5, .ref 135, .ref 136, .ref 137, .ref 138, .ref 139, .ref 140, .ref 141, .ref 142, .int v19, .int v24, .int u8, .ref 143, .ref 144, .ref 145, .ref 146, .ref 147, .ref 148, .int u9, .ref 149, .ref 150, .ref 151, .int u10, .ref 152, .ref 153, .ref 154, .ref 155, .ref 156, .ref 157, .ref 158, .ref 159, .int u11, .ref 160, .int u12, .ref 161, .ref 162, .ref 163, .ref 164, .int u13, .ref 165, .ref 166]) kc_45_204 rfl rfl rfl eh20.1 rfl rfl rfl (Nat.le_of_ble_eq_true rfl) rfl (fun hh26 eh25 => ?_)
          have K27 := xk_pf (k := 33) (v := v24) K22 (xk_wf rfl) xD_115 eh20.1 rfl (by first | omega | decide) (by first | omega | decide) eh25 rfl
          refine xi_aload_n (pc' := 208) (x := 115) kc_45_207 rfl rfl ?_
          refine xi_iload_n (pc' := 209) (x := x1) kc_45_208 rfl rfl ?_
          refine xi_iconst (pc' := 210) (v := 0) kc_45_209 rfl rfl ?_
          refine xi_iload (pc' := 212) (x := x5) kc_45_210 rfl rfl ?_
          refine xi_virtual (mj := 36) (as := [.int x1, .int 0, .int x5]) (st1 := []) (lv0 := [(0, .ref 115), (1, .int x1), (2, .int 0), (3, .int x5)]) kc_45_212 rfl rfl rfl rfl rfl eh25.1 (Nat.le_of_ble_eq_true rfl) (hJ _ _ _ _ (by decide)) (xm_le ml_36 rfl) rfl ?_
          have zc0 : (0 : Int32).toInt = 0 := by decide
          refine mt_36_0 hJ hov1 hov2 (d := d) (x1 := x1) (x2 := 0) (x3 := x5) K27.1 (by first | omega | decide) (by first | omega | decide) (by first | omega | decide) (fun hh29 K30 => ?_)
          have K31 := xk_tr K27 K30 rfl
          refine xp_115 K31.1 (fun u32 u33 u34 u35 u36 u37 u38 u39 u40 u41 u42 u43 u44 bu32 bu33 bu34 bu35 bu36 bu37 bu38 bu39 bu40 bu41 bu42 bu43 bu44 A45 => ?_)
          have e46 : u2 = u33 := xk_eqi (q := 1) K30 rfl eh25.1 A45 rfl rfl
          subst e46
          have e47 : u5 = u36 := xk_eqi (q := 23) K30 rfl eh25.1 A45 rfl rfl
          subst e47
          show xw J ov (d + 5) 45 (215, [(0, .ref 115), (1, .int x1), (2, .long w2), (4, .int x4), (5, .int x5)], [], hh29) _
          refine xcps2 (α := Int32) (x5 + 1) (fun v48 ev48 => ?_)
          have zv48 : v48.toInt = (x5.toInt + 1) := by rw [← ev48]; exact (xz_add (X := x5.toInt) (Y := 1) rfl (by decide) (by omega) (by omega)).trans (by omega)
          refine xi_iinc (pc' := 218) (x := x5) (v := v48) (lv' := [(5, .int v48), (0, .ref 115), (1, .int x1), (2, .long w2), (4, .int x4)]) kc_45_215 rfl rfl ev48 rfl (xm_lt ml_45 rfl) ?_
          refine xi_goto (pc' := 56) kc_45_218 rfl ?_
          refine xw_lv (b := [(0, .ref 115), (1, .int x1), (2, .long w2), (4, .int x4), (5, .int v48)]) (lvS_cons (lvS_cons (lvS_cons (lvS_cons (lvS_cons (lvS_nil (show ([5, 0, 1, 2, 4] : List Nat).Nodup by decide)) rfl) rfl) rfl) rfl) rfl) ?_
          exact i2 x1 w2 x4 v48 hh29 (by omega) (by omega) (by omega) K31 (by omega)
      · refine xi_cmf (pc' := 74) kc_45_71 rfl (xc_ge_f (X := x4.toInt) (Y := u4.toInt) rfl rfl (by omega)) ?_
        refine xi_aload_n (pc' := 75) (x := 115) kc_45_74 rfl rfl ?_
        refine xi_getfield (pc' := 78) (v := .ref 132) kc_45_75 rfl rfl rfl A14 rfl ?_
        refine xi_iload (pc' := 80) (x := x4) kc_45_78 rfl rfl ?_
        refine xcps4 (xk_arr K.1 xD_132) (fun y49 A49 hy49 ry49 => ?_)
        refine xcps4 (xj_get hy49 ry49 (i := x4) (by omega) (by omega)) (fun v50 ev50 bv50 dv50 => ?_)
        refine xi_iaload (pc' := 81) (v := v50) kc_45_80 rfl A49 (by decide) rfl (xi_in (by omega) (by rw [hy49]; omega)) ev50 ?_
        refine xi_iload (pc' := 83) (x := x5) kc_45_81 rfl rfl ?_
        by_cases c51 : v50.toInt = x5.toInt
        · refine xi_cmf (pc' := 86) kc_45_83 rfl (xc_ne_f (X := v50.toInt) (Y := x5.toInt) rfl rfl (by omega)) ?_
          refine xi_aload_n (pc' := 87) (x := 115) kc_45_86 rfl rfl ?_
          refine xi_getfield (pc' := 90) (v := .ref 142) kc_45_87 rfl rfl rfl A14 rfl ?_
          refine xi_aload_n (pc' := 91) (x := 115) kc_45_90 rfl rfl ?_
          refine xi_getfield (pc' := 94) (v := .ref 131) kc_45_91 rfl rfl rfl A14 rfl ?_
          refine xi_iload (pc' := 96) (x := x4) kc_45_94 rfl rfl ?_
          refine xcps4 (xk_arr K.1 xD_131) (fun y52 A52 hy52 ry52 => ?_)
          refine xcps4 (xj_get hy52 ry52 (i := x4) (by omega) (by omega)) (fun v53 ev53 bv53 dv53 => ?_)
          refine xi_iaload (pc' := 97) (v := v53) kc_45_96 rfl A52 (by decide) rfl (xi_in (by omega) (by rw [hy52]; omega)) ev53 ?_
          refine xcps4 (xk_arr K.1 xD_142) (fun y54 A54 hy54 ry54 => ?_)
          refine xcps4 (xj_get hy54 ry54 (i := v53) (by omega) (by omega)) (fun v55 ev55 bv55 dv55 => ?_)
          refine xi_iaload (pc' := 98) (v := v55) kc_45_97 rfl A54 (by decide) rfl (xi_in (by omega) (by rw [hy54]; omega)) ev55 ?_
          refine xi_istore (pc' := 100) (lv' := [(6, .int v55), (0, .ref 115), (1, .int x1), (2, .long w2), (4, .int x4), (5, .int x5)]) kc_45_98 rfl rfl (xm_lt ml_45 rfl) ?_
          refine xi_aload_n (pc' := 101) (x := 115) kc_45_100 rfl rfl ?_
          refine xi_getfield (pc' := 104) (v := .ref 133) kc_45_101 rfl rfl rfl A14 rfl ?_
          refine xi_iload (pc' := 106) (x := x4) kc_45_104 rfl rfl ?_
          refine xcps4 (xk_arr K.1 xD_133) (fun y56 A56 hy56 ry56 => ?_)
          refine xcps4 (xj_get hy56 ry56 (i := x4) (by omega) (by omega)) (fun v57 ev57 bv57 dv57 => ?_)
          refine xi_iaload (pc' := 107) (v := v57) kc_45_106 rfl A56 (by decide) rfl (xi_in (by omega) (by rw [hy56]; omega)) ev57 ?_
          refine xi_aload_n (pc' := 108) (x := 115) kc_45_107 rfl rfl ?_
          refine xi_getfield (pc' := 111) (v := .ref 134) kc_45_108 rfl rfl rfl A14 rfl ?_
          refine xi_iload (pc' := 113) (x := x4) kc_45_111 rfl rfl ?_
          refine xcps4 (xk_arr K.1 xD_134) (fun y58 A58 hy58 ry58 => ?_)
          refine xcps4 (xj_get hy58 ry58 (i := x4) (by omega) (by omega)) (fun v59 ev59 bv59 dv59 => ?_)
          refine xi_iaload (pc' := 114) (v := v59) kc_45_113 rfl A58 (by decide) rfl (xi_in (by omega) (by rw [hy58]; omega)) ev59 ?_
          refine xcps2 (α := Int32) ((v57 : Int32) - v59) (fun v60 ev60 => ?_)
          have rv60 := xc_rng v60
          refine xi_isub (pc' := 115) (v := v60) kc_45_114 rfl ev60 ?_
          refine xi_istore (pc' := 117) (lv' := [(7, .int v60), (6, .int v55), (0, .ref 115), (1, .int x1), (2, .long w2), (4, .int x4), (5, .int x5)]) kc_45_115 rfl rfl (xm_lt ml_45 rfl) ?_
          refine xi_aload_n (pc' := 118) (x := 115) kc_45_117 rfl rfl ?_
          refine xi_getfield (pc' := 121) (v := .ref 133) kc_45_118 rfl rfl rfl A14 rfl ?_
          refine xi_iload (pc' := 123) (x := x4) kc_45_121 rfl rfl ?_
          refine xi_iaload (pc' := 124) (v := v57) kc_45_123 rfl A56 (by decide) rfl (xi_in (by omega) (by rw [hy56]; omega)) ev57 ?_
          refine xi_aload_n (pc' := 125) (x := 115) kc_45_124 rfl rfl ?_
          refine xi_getfield (pc' := 128) (v := .ref 134) kc_45_125 rfl rfl rfl A14 rfl ?_
          refine xi_iload (pc' := 130) (x := x4) kc_45_128 rfl rfl ?_
          refine xi_iaload (pc' := 131) (v := v59) kc_45_130 rfl A58 (by decide) rfl (xi_in (by omega) (by rw [hy58]; omega)) ev59 ?_
          refine xcps2 (α := Int32) ((v57 : Int32) + v59) (fun v61 ev61 => ?_)
          have rv61 := xc_rng v61
          refine xi_iadd (pc' := 132) (v := v61) kc_45_131 rfl ev61 ?_
          refine xi_istore (pc' := 134) (lv' := [(8, .int v61), (7, .int v60), (6, .int v55), (0, .ref 115), (1, .int x1), (2, .long w2), (4, .int x4), (5, .int x5)]) kc_45_132 rfl rfl (xm_lt ml_45 rfl) ?_
          refine xi_lload_n (pc' := 135) (x := w2) kc_45_134 rfl rfl ?_
          refine xi_iload (pc' := 137) (x := v55) kc_45_135 rfl rfl ?_
          refine xi_iload (pc' := 139) (x := v60) kc_45_137 rfl rfl ?_
          by_cases c62 : v60.toInt ≤ v55.toInt
          · refine xi_cmt (pc' := 151) kc_45_139 rfl (xc_ge_t (X := v55.toInt) (Y := v60.toInt) rfl rfl (by omega)) ?_
            refine xi_iload (pc' := 153) (x := v55) kc_45_151 rfl rfl ?_
            refine xi_iload (pc' := 155) (x := v61) kc_45_153 rfl rfl ?_
            by_cases c63 : v55.toInt ≤ v61.toInt
            · refine xi_cmt (pc' := 167) kc_45_155 rfl (xc_le_t (X := v55.toInt) (Y := v61.toInt) rfl rfl (by omega)) ?_
              refine xi_lconst (pc' := 168) (v := 0) kc_45_167 rfl rfl ?_
              refine xcps2 (α := Int64) ((w2 : Int64) + 0) (fun v64 ev64 => ?_)
              refine xi_ladd (pc' := 169) (v := v64) kc_45_168 rfl ev64 ?_
              refine xi_lstore_n (pc' := 170) (lv' := [(2, .long v64), (8, .int v61), (7, .int v60), (6, .int v55), (0, .ref 115), (1, .int x1), (4, .int x4), (5, .int x5)]) kc_45_169 rfl rfl (xm_lt ml_45 rfl) ?_
              refine xcps2 (α := Int32) (x4 + 1) (fun v65 ev65 => ?_)
              have zv65 : v65.toInt = (x4.toInt + 1) := by rw [← ev65]; exact (xz_add (X := x4.toInt) (Y := 1) rfl (by decide) (by omega) (by omega)).trans (by omega)
              refine xi_iinc (pc' := 173) (x := x4) (v := v65) (lv' := [(4, .int v65), (2, .long v64), (8, .int v61), (7, .int v60), (6, .int v55), (0, .ref 115), (1, .int x1), (5, .int x5)]) kc_45_170 rfl rfl ev65 rfl (xm_lt ml_45 rfl) ?_
              refine xi_goto (pc' := 65) kc_45_173 rfl ?_
              refine xw_lv (b := [(0, .ref 115), (1, .int x1), (2, .long v64), (4, .int v65), (5, .int x5)]) (lvS_cons (lvS_cons (lvS_cons (lvS_cons (lvS_cons (lvS_nil (show ([4, 2, 8, 7, 6, 0, 1, 5] : List Nat).Nodup by decide)) rfl) rfl) rfl) rfl) rfl) ?_
              exact i3 x1 v64 v65 x5 h (by omega) (by omega) (by omega) K (by omega)
            · refine xi_cmf (pc' := 158) kc_45_155 rfl (xc_le_f (X := v55.toInt) (Y := v61.toInt) rfl rfl (by omega)) ?_
              refine xi_iload (pc' := 160) (x := v55) kc_45_158 rfl rfl ?_
              refine xi_iload (pc' := 162) (x := v61) kc_45_160 rfl rfl ?_
              refine xcps2 (α := Int32) ((v55 : Int32) - v61) (fun v66 ev66 => ?_)
              have rv66 := xc_rng v66
              refine xi_isub (pc' := 163) (v := v66) kc_45_162 rfl ev66 ?_
              obtain ⟨v67, ev67⟩ : ∃ q, (v66 : Int32).toInt64 = q := ⟨_, rfl⟩
              refine xi_i2l (pc' := 164) (v := v67) kc_45_163 rfl ev67 ?_
              refine xi_goto (pc' := 168) kc_45_164 rfl ?_
              refine xcps2 (α := Int64) ((w2 : Int64) + v67) (fun v68 ev68 => ?_)
              refine xi_ladd (pc' := 169) (v := v68) kc_45_168 rfl ev68 ?_
              refine xi_lstore_n (pc' := 170) (lv' := [(2, .long v68), (8, .int v61), (7, .int v60), (6, .int v55), (0, .ref 115), (1, .int x1), (4, .int x4), (5, .int x5)]) kc_45_169 rfl rfl (xm_lt ml_45 rfl) ?_
              refine xcps2 (α := Int32) (x4 + 1) (fun v69 ev69 => ?_)
              have zv69 : v69.toInt = (x4.toInt + 1) := by rw [← ev69]; exact (xz_add (X := x4.toInt) (Y := 1) rfl (by decide) (by omega) (by omega)).trans (by omega)
              refine xi_iinc (pc' := 173) (x := x4) (v := v69) (lv' := [(4, .int v69), (2, .long v68), (8, .int v61), (7, .int v60), (6, .int v55), (0, .ref 115), (1, .int x1), (5, .int x5)]) kc_45_170 rfl rfl ev69 rfl (xm_lt ml_45 rfl) ?_
              refine xi_goto (pc' := 65) kc_45_173 rfl ?_
              refine xw_lv (b := [(0, .ref 115), (1, .int x1), (2, .long v68), (4, .int v69), (5, .int x5)]) (lvS_cons (lvS_cons (lvS_cons (lvS_cons (lvS_cons (lvS_nil (show ([4, 2, 8, 7, 6, 0, 1, 5] : List Nat).Nodup by decide)) rfl) rfl) rfl) rfl) rfl) ?_
              exact i3 x1 v68 v69 x5 h (by omega) (by omega) (by omega) K (by omega)
          · refine xi_cmf (pc' := 142) kc_45_139 rfl (xc_ge_f (X := v55.toInt) (Y := v60.toInt) rfl rfl (by omega)) ?_
            refine xi_iload (pc' := 144) (x := v60) kc_45_142 rfl rfl ?_
            refine xi_iload (pc' := 146) (x := v55) kc_45_144 rfl rfl ?_
            refine xcps2 (α := Int32) ((v60 : Int32) - v55) (fun v70 ev70 => ?_)
            have rv70 := xc_rng v70
            refine xi_isub (pc' := 147) (v := v70) kc_45_146 rfl ev70 ?_
            obtain ⟨v71, ev71⟩ : ∃ q, (v70 : Int32).toInt64 = q := ⟨_, rfl⟩
            refine xi_i2l (pc' := 148) (v := v71) kc_45_147 rfl ev71 ?_
            refine xi_goto (pc' := 168) kc_45_148 rfl ?_
            refine xcps2 (α := Int64) ((w2 : Int64) + v71) (fun v72 ev72 => ?_)
            refine xi_ladd (pc' := 169) (v := v72) kc_45_168 rfl ev72 ?_
            refine xi_lstore_n (pc' := 170) (lv' := [(2, .long v72), (8, .int v61), (7, .int v60), (6, .int v55), (0, .ref 115), (1, .int x1), (4, .int x4), (5, .int x5)]) kc_45_169 rfl rfl (xm_lt ml_45 rfl) ?_
            refine xcps2 (α := Int32) (x4 + 1) (fun v73 ev73 => ?_)
            have zv73 : v73.toInt = (x4.toInt + 1) := by rw [← ev73]; exact (xz_add (X := x4.toInt) (Y := 1) rfl (by decide) (by omega) (by omega)).trans (by omega)
            refine xi_iinc (pc' := 173) (x := x4) (v := v73) (lv' := [(4, .int v73), (2, .long v72), (8, .int v61), (7, .int v60), (6, .int v55), (0, .ref 115), (1, .int x1), (5, .int x5)]) kc_45_170 rfl rfl ev73 rfl (xm_lt ml_45 rfl) ?_
            refine xi_goto (pc' := 65) kc_45_173 rfl ?_
            refine xw_lv (b := [(0, .ref 115), (1, .int x1), (2, .long v72), (4, .int v73), (5, .int x5)]) (lvS_cons (lvS_cons (lvS_cons (lvS_cons (lvS_cons (lvS_nil (show ([4, 2, 8, 7, 6, 0, 1, 5] : List Nat).Nodup by decide)) rfl) rfl) rfl) rfl) rfl) ?_
            exact i3 x1 v72 v73 x5 h (by omega) (by omega) (by omega) K (by omega)
        · refine xi_cmt (pc' := 176) kc_45_83 rfl (xc_ne_t (X := v50.toInt) (Y := x5.toInt) rfl rfl (by omega)) ?_
          refine xi_iload (pc' := 178) (x := x5) kc_45_176 rfl rfl ?_
          refine xi_aload_n (pc' := 179) (x := 115) kc_45_178 rfl rfl ?_
          refine xi_getfield (pc' := 182) (v := .int u2) kc_45_179 rfl rfl rfl A14 rfl ?_
          by_cases c74 : u2.toInt ≤ x5.toInt
          · refine xi_cmt (pc' := 215) kc_45_182 rfl (xc_ge_t (X := x5.toInt) (Y := u2.toInt) rfl rfl (by omega)) ?_
            refine xcps2 (α := Int32) (x5 + 1) (fun v75 ev75 => ?_)
            have zv75 : v75.toInt = (x5.toInt + 1) := by rw [← ev75]; exact (xz_add (X := x5.toInt) (Y := 1) rfl (by decide) (by omega) (by omega)).trans (by omega)
            refine xi_iinc (pc' := 218) (x := x5) (v := v75) (lv' := [(5, .int v75), (0, .ref 115), (1, .int x1), (2, .long w2), (4, .int x4)]) kc_45_215 rfl rfl ev75 rfl (xm_lt ml_45 rfl) ?_
            refine xi_goto (pc' := 56) kc_45_218 rfl ?_
            refine xw_lv (b := [(0, .ref 115), (1, .int x1), (2, .long w2), (4, .int x4), (5, .int v75)]) (lvS_cons (lvS_cons (lvS_cons (lvS_cons (lvS_cons (lvS_nil (show ([5, 0, 1, 2, 4] : List Nat).Nodup by decide)) rfl) rfl) rfl) rfl) rfl) ?_
            exact i2 x1 w2 x4 v75 h (by omega) (by omega) (by omega) K (by omega)
          · refine xi_cmf (pc' := 185) kc_45_182 rfl (xc_ge_f (X := x5.toInt) (Y := u2.toInt) rfl rfl (by omega)) ?_
            refine xi_aload_n (pc' := 186) (x := 115) kc_45_185 rfl rfl ?_
            refine xi_aload_n (pc' := 187) (x := 115) kc_45_186 rfl rfl ?_
            refine xi_getfield (pc' := 190) (v := .ref 150) kc_45_187 rfl rfl rfl A14 rfl ?_
            refine xi_iload (pc' := 192) (x := x5) kc_45_190 rfl rfl ?_
            refine xcps4 (xk_arr K.1 xD_150) (fun y76 A76 hy76 ry76 => ?_)
            refine xcps4 (xj_get hy76 ry76 (i := x5) (by omega) (by omega)) (fun v77 ev77 bv77 dv77 => ?_)
            refine xi_iaload (pc' := 193) (v := v77) kc_45_192 rfl A76 (by decide) rfl (xi_in (by omega) (by rw [hy76]; omega)) ev77 ?_
            refine xi_putfield (pc' := 196) (fs' := [.int u1, .int u2, .ref 116, .ref 117, .ref 118, .ref 119, .ref 120, .ref 121, .ref 122, .ref 123, .ref 124, .ref 125, .ref 126, .ref 127, .ref 128, .ref 129, .int u3, .ref 130, .int u4, .ref 131, .ref 132, .ref 133, .ref 134, .int u5, .ref 135, .ref 136, .ref 137, .ref 138, .ref 139, .ref 140, .ref 141, .ref 142, .int v77, .int u7, .int u8, .ref 143, .ref 144, .ref 145, .ref 146, .ref 147, .ref 148, .int u9, .ref 149, .ref 150, .ref 151, .int u10, .ref 152, .ref 153, .ref 154, .ref 155, .ref 156, .ref 157, .ref 158, .ref 159, .int u11, .ref 160, .int u12, .ref 161, .ref 162, .ref 163, .ref 164, .int u13, .ref 165, .ref 166]) kc_45_193 rfl rfl rfl A14 rfl rfl rfl (Nat.le_of_ble_eq_true rfl) rfl (fun hh79 eh78 => ?_)
            have K80 := xk_pf (k := 32) (v := v77) K (xk_wf rfl) xD_115 A14 rfl (by first | omega | decide) (by first | omega | decide) eh78 rfl
            refine xi_aload_n (pc' := 197) (x := 115) kc_45_196 rfl rfl ?_
            refine xi_aload_n (pc' := 198) (x := 115) kc_45_197 rfl rfl ?_
            refine xi_getfield (pc' := 201) (v := .ref 151) kc_45_198 rfl rfl rfl eh78.1 rfl ?_
            refine xi_iload (pc' := 203) (x := x5) kc_45_201 rfl rfl ?_
            refine xcps4 (xk_arr K80.1 xD_151) (fun y81 A81 hy81 ry81 => ?_)
            refine xcps4 (xj_get hy81 ry81 (i := x5) (by omega) (by omega)) (fun v82 ev82 bv82 dv82 => ?_)
            refine xi_iaload (pc' := 204) (v := v82) kc_45_203 rfl A81 (by decide) rfl (xi_in (by omega) (by rw [hy81]; omega)) ev82 ?_
            refine xi_putfield (pc' := 207) (fs' := [.int u1, .int u2, .ref 116, .ref 117, .ref 118, .ref 119, .ref 120, .ref 121, .ref 122, .ref 123, .ref 124, .ref 125, .ref 126, .ref 127, .ref 128, .ref 129, .int u3, .ref 130, .int u4, .ref 131, .ref 132, .ref 133, .ref 134, .int u5, .ref 135, .ref 136, .ref 137, .ref 138, .ref 139, .ref 140, .ref 141, .ref 142, .int v77, .int v82, .int u8, .ref 143, .ref 144, .ref 145, .ref 146, .ref 147, .ref 148, .int u9, .ref 149, .ref 150, .ref 151, .int u10, .ref 152, .ref 153, .ref 154, .ref 155, .ref 156, .ref 157, .ref 158, .ref 159, .int u11, .ref 160, .int u12, .ref 161, .ref 162, .ref 163, .ref 164, .int u13, .ref 165, .ref 166]) kc_45_204 rfl rfl rfl eh78.1 rfl rfl rfl (Nat.le_of_ble_eq_true rfl) rfl (fun hh84 eh83 => ?_)
            have K85 := xk_pf (k := 33) (v := v82) K80 (xk_wf rfl) xD_115 eh78.1 rfl (by first | omega | decide) (by first | omega | decide) eh83 rfl
            refine xi_aload_n (pc' := 208) (x := 115) kc_45_207 rfl rfl ?_
            refine xi_iload_n (pc' := 209) (x := x1) kc_45_208 rfl rfl ?_
            refine xi_iconst (pc' := 210) (v := 0) kc_45_209 rfl rfl ?_
            refine xi_iload (pc' := 212) (x := x5) kc_45_210 rfl rfl ?_
            refine xi_virtual (mj := 36) (as := [.int x1, .int 0, .int x5]) (st1 := []) (lv0 := [(0, .ref 115), (1, .int x1), (2, .int 0), (3, .int x5)]) kc_45_212 rfl rfl rfl rfl rfl eh83.1 (Nat.le_of_ble_eq_true rfl) (hJ _ _ _ _ (by decide)) (xm_le ml_36 rfl) rfl ?_
            have zc0 : (0 : Int32).toInt = 0 := by decide
            refine mt_36_0 hJ hov1 hov2 (d := d) (x1 := x1) (x2 := 0) (x3 := x5) K85.1 (by first | omega | decide) (by first | omega | decide) (by first | omega | decide) (fun hh87 K88 => ?_)
            have K89 := xk_tr K85 K88 rfl
            refine xp_115 K89.1 (fun u90 u91 u92 u93 u94 u95 u96 u97 u98 u99 u100 u101 u102 bu90 bu91 bu92 bu93 bu94 bu95 bu96 bu97 bu98 bu99 bu100 bu101 bu102 A103 => ?_)
            have e104 : u2 = u91 := xk_eqi (q := 1) K88 rfl eh83.1 A103 rfl rfl
            subst e104
            have e105 : u5 = u94 := xk_eqi (q := 23) K88 rfl eh83.1 A103 rfl rfl
            subst e105
            show xw J ov (d + 5) 45 (215, [(0, .ref 115), (1, .int x1), (2, .long w2), (4, .int x4), (5, .int x5)], [], hh87) _
            refine xcps2 (α := Int32) (x5 + 1) (fun v106 ev106 => ?_)
            have zv106 : v106.toInt = (x5.toInt + 1) := by rw [← ev106]; exact (xz_add (X := x5.toInt) (Y := 1) rfl (by decide) (by omega) (by omega)).trans (by omega)
            refine xi_iinc (pc' := 218) (x := x5) (v := v106) (lv' := [(5, .int v106), (0, .ref 115), (1, .int x1), (2, .long w2), (4, .int x4)]) kc_45_215 rfl rfl ev106 rfl (xm_lt ml_45 rfl) ?_
            refine xi_goto (pc' := 56) kc_45_218 rfl ?_
            refine xw_lv (b := [(0, .ref 115), (1, .int x1), (2, .long w2), (4, .int x4), (5, .int v106)]) (lvS_cons (lvS_cons (lvS_cons (lvS_cons (lvS_cons (lvS_nil (show ([5, 0, 1, 2, 4] : List Nat).Nodup by decide)) rfl) rfl) rfl) rfl) rfl) ?_
            exact i2 x1 w2 x4 v106 hh87 (by omega) (by omega) (by omega) K89 (by omega)
set_option maxHeartbeats 4000000 in
theorem mt_45_0 {J : xe_J} {ov : List (List Int32)} (hJ : ∀ d mj as h, mj ≠ xe_loff → J d mj as h = none) (hov1 : ov[1]? = some [10, 0, 0, 0, 0, 0]) (hov2 : ov[2]? = some [99, 30, 50, 50, 1, 99999]) {d : Nat} {Q : Option Value → xe_H → Prop} {h : xe_H} {x1 : Int32} (T : xt h) (b1 : (0 ≤ x1.toInt ∧ x1.toInt ≤ 63)) (kk : (∀ (r : Int64) (h' : xe_H), xk [(0, 9), (115, 1), (83, 0), (29, 0), (31, 0), (33, 0), (35, 0), (37, 0), (39, 0), (41, 0), (43, 0), (45, 0), (47, 0), (49, 0), (51, 0), (125, 0), (29, 2), (31, 2), (33, 2), (35, 2), (37, 2), (39, 2), (41, 2), (43, 2), (45, 2), (47, 2), (49, 2), (51, 2), (127, 0), (1, 5), (115, 23)] h h' → Q (some (.long r)) h')) : xw J ov (d + 5) 45 (0, [(0, .ref 115), (1, .int x1)], [], h) Q := by
  have K : xk [(0, 9), (115, 1), (83, 0), (29, 0), (31, 0), (33, 0), (35, 0), (37, 0), (39, 0), (41, 0), (43, 0), (45, 0), (47, 0), (49, 0), (51, 0), (125, 0), (29, 2), (31, 2), (33, 2), (35, 2), (37, 2), (39, 2), (41, 2), (43, 2), (45, 2), (47, 2), (49, 2), (51, 2), (127, 0), (1, 5), (115, 23)] h h := xk_re T
  refine xi_lconst (pc' := 1) (v := 0) kc_45_0 rfl rfl ?_
  refine xi_lstore_n (pc' := 2) (lv' := [(2, .long 0), (0, .ref 115), (1, .int x1)]) kc_45_1 rfl rfl (xm_lt ml_45 rfl) ?_
  refine xi_iconst (pc' := 3) (v := 0) kc_45_2 rfl rfl ?_
  refine xi_istore (pc' := 5) (lv' := [(4, .int 0), (2, .long 0), (0, .ref 115), (1, .int x1)]) kc_45_3 rfl rfl (xm_lt ml_45 rfl) ?_
  refine xi_iconst (pc' := 6) (v := 0) kc_45_5 rfl rfl ?_
  refine xi_istore (pc' := 8) (lv' := [(5, .int 0), (4, .int 0), (2, .long 0), (0, .ref 115), (1, .int x1)]) kc_45_6 rfl rfl (xm_lt ml_45 rfl) ?_
  have zc0 : (0 : Int32).toInt = 0 := by decide
  refine xw_lv (b := [(0, .ref 115), (1, .int x1), (2, .long 0), (4, .int 0), (5, .int 0)]) (lvS_cons (lvS_cons (lvS_cons (lvS_cons (lvS_cons (lvS_nil (show ([5, 4, 2, 0, 1] : List Nat).Nodup by decide)) rfl) rfl) rfl) rfl) rfl) ?_
  exact (lp_45_0 hJ hov1 hov2 (d := d) (hb := h) (fun r9 h9 K9 => kk r9 h9 (xk_tr K K9 rfl)) 37344).1 x1 0 0 0 h (by omega) (by omega) (by omega) (xk_re K.1) (by omega)
set_option maxHeartbeats 4000000 in
theorem lp_43_0 {J : xe_J} {ov : List (List Int32)} (hJ : ∀ d mj as h, mj ≠ xe_loff → J d mj as h = none) (hov1 : ov[1]? = some [10, 0, 0, 0, 0, 0]) (hov2 : ov[2]? = some [99, 30, 50, 50, 1, 99999]) {d : Nat} {Q : Option Value → xe_H → Prop} {hb : xe_H} (kk : (∀ h' : xe_H, xk [(0, 9), (115, 1), (83, 0), (29, 0), (31, 0), (33, 0), (35, 0), (37, 0), (39, 0), (41, 0), (43, 0), (45, 0), (47, 0), (49, 0), (51, 0), (125, 0), (29, 2), (31, 2), (33, 2), (35, 2), (37, 2), (39, 2), (41, 2), (43, 2), (45, 2), (47, 2), (49, 2), (51, 2), (127, 0), (1, 5), (115, 23)] hb h' → Q none h')) : ∀ m : Nat, (∀ (x1 : Int32) (h : xe_H), (0 ≤ x1.toInt ∧ x1.toInt ≤ 64) → xk [(0, 9), (115, 1), (83, 0), (29, 0), (31, 0), (33, 0), (35, 0), (37, 0), (39, 0), (41, 0), (43, 0), (45, 0), (47, 0), (49, 0), (51, 0), (125, 0), (29, 2), (31, 2), (33, 2), (35, 2), (37, 2), (39, 2), (41, 2), (43, 2), (45, 2), (47, 2), (49, 2), (51, 2), (127, 0), (1, 5), (115, 23)] hb h → (-1) * x1.toInt + 64 < (m : Int) → xw J ov (d + 6) 43 (19, [(0, .ref 115), (1, .int x1)], [], h) Q) := by
  intro m
  induction m with
  | zero =>
    intro x1 h b1 K hm; exfalso; omega
  | succ m ih =>
    have i0 := ih
    intro x1 h b1 K hm
    refine xi_iload_n (pc' := 20) (x := x1) kc_43_19 rfl rfl ?_
    refine xi_aload_n (pc' := 21) (x := 115) kc_43_20 rfl rfl ?_
    refine xp_115 K.1 (fun u1 u2 u3 u4 u5 u6 u7 u8 u9 u10 u11 u12 u13 bu1 bu2 bu3 bu4 bu5 bu6 bu7 bu8 bu9 bu10 bu11 bu12 bu13 A14 => ?_)
    refine xi_virtual (mj := 42) (as := []) (st1 := [.int x1]) (lv0 := [(0, .ref 115)]) kc_43_21 rfl rfl rfl rfl rfl A14 (Nat.le_of_ble_eq_true rfl) (hJ _ _ _ _ (by decide)) (xm_le ml_42 rfl) rfl ?_
    refine xi_iconst (pc' := 1) (v := 1) kc_42_0 rfl rfl ?_
    refine xi_aload_n (pc' := 2) (x := 115) kc_42_1 rfl rfl ?_
    refine xi_getfield (pc' := 5) (v := .int u5) kc_42_2 rfl rfl rfl A14 rfl ?_
    refine xi_bipush (pc' := 7) (v := 6) kc_42_5 rfl rfl ?_
    by_cases c15 : 6 ≤ u5.toInt
    · refine xi_cmt (pc' := 17) kc_42_7 rfl (xc_ge_t (X := u5.toInt) (Y := 6) rfl (by decide) (by omega)) ?_
      refine xi_bipush (pc' := 19) (v := 6) kc_42_17 rfl rfl ?_
      refine xi_ishl (pc' := 20) (v := 64) kc_42_19 rfl rfl ?_
      refine xi_ireturn kc_42_20 mr_42 rfl ?_
      show xw J ov (d + 6) 43 (24, [(0, .ref 115), (1, .int x1)], [.int 64, .int x1], h) _
      by_cases c16 : 64 ≤ x1.toInt
      · refine xi_cmt (pc' := 44) kc_43_24 rfl (xc_ge_t (X := x1.toInt) (Y := 64) rfl (by decide) (by omega)) ?_
        refine xi_return kc_43_44 mr_43 ?_
        exact kk h K
      · refine xi_cmf (pc' := 27) kc_43_24 rfl (xc_ge_f (X := x1.toInt) (Y := 64) rfl (by decide) (by omega)) ?_
        refine xi_aload_n (pc' := 28) (x := 115) kc_43_27 rfl rfl ?_
        refine xi_getfield (pc' := 31) (v := .ref 149) kc_43_28 rfl rfl rfl A14 rfl ?_
        refine xi_iload_n (pc' := 32) (x := x1) kc_43_31 rfl rfl ?_
        refine xi_aload_n (pc' := 33) (x := 115) kc_43_32 rfl rfl ?_
        refine xi_iload_n (pc' := 34) (x := x1) kc_43_33 rfl rfl ?_
        refine xi_virtual (mj := 45) (as := [.int x1]) (st1 := [.int x1, .ref 149]) (lv0 := [(0, .ref 115), (1, .int x1)]) kc_43_34 rfl rfl rfl rfl rfl A14 (Nat.le_of_ble_eq_true rfl) (hJ _ _ _ _ (by decide)) (xm_le ml_45 rfl) rfl ?_
        refine mt_45_0 hJ hov1 hov2 (d := d) (x1 := x1) K.1 (by first | omega | decide) (fun r17 hh18 K19 => ?_)
        have K20 := xk_tr K K19 rfl
        refine xp_115 K20.1 (fun u21 u22 u23 u24 u25 u26 u27 u28 u29 u30 u31 u32 u33 bu21 bu22 bu23 bu24 bu25 bu26 bu27 bu28 bu29 bu30 bu31 bu32 bu33 A34 => ?_)
        have e35 : u2 = u22 := xk_eqi (q := 1) K19 rfl A14 A34 rfl rfl
        subst e35
        have e36 : u5 = u25 := xk_eqi (q := 23) K19 rfl A14 A34 rfl rfl
        subst e36
        show xw J ov (d + 6) 43 (37, [(0, .ref 115), (1, .int x1)], [.long r17, .int x1, .ref 149], hh18) _
        obtain ⟨y37, A37, hy37⟩ := xk_larr K20.1 xD_149
        obtain ⟨y38, s38, hy38⟩ := xj_lset (v := r17) hy37 x1
        refine xi_lastore (pc' := 38) (x' := y38) kc_43_37 rfl A37 rfl (xi_in (by omega) (by rw [hy37]; omega)) s38 (fun hh38 eh38 => ?_)
        have K39 := xk_pla K20 (xk_wa rfl) xD_149 hy38 eh38
        refine xcps2 (α := Int32) (x1 + 1) (fun v40 ev40 => ?_)
        have zv40 : v40.toInt = (x1.toInt + 1) := by rw [← ev40]; exact (xz_add (X := x1.toInt) (Y := 1) rfl (by decide) (by omega) (by omega)).trans (by omega)
        refine xi_iinc (pc' := 41) (x := x1) (v := v40) (lv' := [(1, .int v40), (0, .ref 115)]) kc_43_38 rfl rfl ev40 rfl (xm_lt ml_43 rfl) ?_
        refine xi_goto (pc' := 19) kc_43_41 rfl ?_
        refine xw_lv (b := [(0, .ref 115), (1, .int v40)]) (lvS_cons (lvS_cons (lvS_nil (show ([1, 0] : List Nat).Nodup by decide)) rfl) rfl) ?_
        exact i0 v40 hh38 (by omega) K39 (by omega)
    · refine xi_cmf (pc' := 10) kc_42_7 rfl (xc_ge_f (X := u5.toInt) (Y := 6) rfl (by decide) (by omega)) ?_
      refine xi_aload_n (pc' := 11) (x := 115) kc_42_10 rfl rfl ?_
      refine xi_getfield (pc' := 14) (v := .int u5) kc_42_11 rfl rfl rfl A14 rfl ?_
      refine xi_goto (pc' := 19) kc_42_14 rfl ?_
      refine xcps2 (α := Int32) ((1 : Int32) <<< (u5 &&& 31)) (fun v41 ev41 => ?_)
      have rv41 := xc_rng v41
      have bv41 : 1 ≤ v41.toInt ∧ v41.toInt ≤ 64 := by rw [← ev41]; exact xj_shl6 (by omega) (by omega)
      refine xi_ishl (pc' := 20) (v := v41) kc_42_19 rfl ev41 ?_
      refine xi_ireturn kc_42_20 mr_42 rfl ?_
      show xw J ov (d + 6) 43 (24, [(0, .ref 115), (1, .int x1)], [.int v41, .int x1], h) _
      by_cases c42 : v41.toInt ≤ x1.toInt
      · refine xi_cmt (pc' := 44) kc_43_24 rfl (xc_ge_t (X := x1.toInt) (Y := v41.toInt) rfl rfl (by omega)) ?_
        refine xi_return kc_43_44 mr_43 ?_
        exact kk h K
      · refine xi_cmf (pc' := 27) kc_43_24 rfl (xc_ge_f (X := x1.toInt) (Y := v41.toInt) rfl rfl (by omega)) ?_
        refine xi_aload_n (pc' := 28) (x := 115) kc_43_27 rfl rfl ?_
        refine xi_getfield (pc' := 31) (v := .ref 149) kc_43_28 rfl rfl rfl A14 rfl ?_
        refine xi_iload_n (pc' := 32) (x := x1) kc_43_31 rfl rfl ?_
        refine xi_aload_n (pc' := 33) (x := 115) kc_43_32 rfl rfl ?_
        refine xi_iload_n (pc' := 34) (x := x1) kc_43_33 rfl rfl ?_
        refine xi_virtual (mj := 45) (as := [.int x1]) (st1 := [.int x1, .ref 149]) (lv0 := [(0, .ref 115), (1, .int x1)]) kc_43_34 rfl rfl rfl rfl rfl A14 (Nat.le_of_ble_eq_true rfl) (hJ _ _ _ _ (by decide)) (xm_le ml_45 rfl) rfl ?_
        refine mt_45_0 hJ hov1 hov2 (d := d) (x1 := x1) K.1 (by first | omega | decide) (fun r43 hh44 K45 => ?_)
        have K46 := xk_tr K K45 rfl
        refine xp_115 K46.1 (fun u47 u48 u49 u50 u51 u52 u53 u54 u55 u56 u57 u58 u59 bu47 bu48 bu49 bu50 bu51 bu52 bu53 bu54 bu55 bu56 bu57 bu58 bu59 A60 => ?_)
        have e61 : u2 = u48 := xk_eqi (q := 1) K45 rfl A14 A60 rfl rfl
        subst e61
        have e62 : u5 = u51 := xk_eqi (q := 23) K45 rfl A14 A60 rfl rfl
        subst e62
        show xw J ov (d + 6) 43 (37, [(0, .ref 115), (1, .int x1)], [.long r43, .int x1, .ref 149], hh44) _
        obtain ⟨y63, A63, hy63⟩ := xk_larr K46.1 xD_149
        obtain ⟨y64, s64, hy64⟩ := xj_lset (v := r43) hy63 x1
        refine xi_lastore (pc' := 38) (x' := y64) kc_43_37 rfl A63 rfl (xi_in (by omega) (by rw [hy63]; omega)) s64 (fun hh64 eh64 => ?_)
        have K65 := xk_pla K46 (xk_wa rfl) xD_149 hy64 eh64
        refine xcps2 (α := Int32) (x1 + 1) (fun v66 ev66 => ?_)
        have zv66 : v66.toInt = (x1.toInt + 1) := by rw [← ev66]; exact (xz_add (X := x1.toInt) (Y := 1) rfl (by decide) (by omega) (by omega)).trans (by omega)
        refine xi_iinc (pc' := 41) (x := x1) (v := v66) (lv' := [(1, .int v66), (0, .ref 115)]) kc_43_38 rfl rfl ev66 rfl (xm_lt ml_43 rfl) ?_
        refine xi_goto (pc' := 19) kc_43_41 rfl ?_
        refine xw_lv (b := [(0, .ref 115), (1, .int v66)]) (lvS_cons (lvS_cons (lvS_nil (show ([1, 0] : List Nat).Nodup by decide)) rfl) rfl) ?_
        exact i0 v66 hh64 (by omega) K65 (by omega)
set_option maxHeartbeats 4000000 in
theorem mt_43_0 {J : xe_J} {ov : List (List Int32)} (hJ : ∀ d mj as h, mj ≠ xe_loff → J d mj as h = none) (hov1 : ov[1]? = some [10, 0, 0, 0, 0, 0]) (hov2 : ov[2]? = some [99, 30, 50, 50, 1, 99999]) {d : Nat} {Q : Option Value → xe_H → Prop} {h : xe_H} (T : xt h) (kk : (∀ h' : xe_H, xk [(0, 9), (115, 1), (83, 0), (29, 0), (31, 0), (33, 0), (35, 0), (37, 0), (39, 0), (41, 0), (43, 0), (45, 0), (47, 0), (49, 0), (51, 0), (125, 0), (29, 2), (31, 2), (33, 2), (35, 2), (37, 2), (39, 2), (41, 2), (43, 2), (45, 2), (47, 2), (49, 2), (51, 2), (127, 0), (1, 5), (115, 23)] h h' → Q none h')) : xw J ov (d + 6) 43 (0, [(0, .ref 115)], [], h) Q := by
  have K : xk [(0, 9), (115, 1), (83, 0), (29, 0), (31, 0), (33, 0), (35, 0), (37, 0), (39, 0), (41, 0), (43, 0), (45, 0), (47, 0), (49, 0), (51, 0), (125, 0), (29, 2), (31, 2), (33, 2), (35, 2), (37, 2), (39, 2), (41, 2), (43, 2), (45, 2), (47, 2), (49, 2), (51, 2), (127, 0), (1, 5), (115, 23)] h h := xk_re T
  refine xi_aload_n (pc' := 1) (x := 115) kc_43_0 rfl rfl ?_
  refine xp_115 K.1 (fun u1 u2 u3 u4 u5 u6 u7 u8 u9 u10 u11 u12 u13 bu1 bu2 bu3 bu4 bu5 bu6 bu7 bu8 bu9 bu10 bu11 bu12 bu13 A14 => ?_)
  refine xi_getfield (pc' := 4) (v := .int u9) kc_43_1 rfl rfl rfl A14 rfl ?_
  by_cases c15 : u9.toInt = 0
  · refine xi_ift (pc' := 8) kc_43_4 rfl (xc_eq_t (X := u9.toInt) (Y := 0) rfl (by decide) (by omega)) ?_
    refine xi_aload_n (pc' := 9) (x := 115) kc_43_8 rfl rfl ?_
    refine xi_iconst (pc' := 10) (v := 1) kc_43_9 rfl rfl ?_
    refine xi_putfield (pc' := 13) (fs' := [.int u1, .int u2, .ref 116, .ref 117, .ref 118, .ref 119, .ref 120, .ref 121, .ref 122, .ref 123, .ref 124, .ref 125, .ref 126, .ref 127, .ref 128, .ref 129, .int u3, .ref 130, .int u4, .ref 131, .ref 132, .ref 133, .ref 134, .int u5, .ref 135, .ref 136, .ref 137, .ref 138, .ref 139, .ref 140, .ref 141, .ref 142, .int u6, .int u7, .int u8, .ref 143, .ref 144, .ref 145, .ref 146, .ref 147, .ref 148, .int 1, .ref 149, .ref 150, .ref 151, .int u10, .ref 152, .ref 153, .ref 154, .ref 155, .ref 156, .ref 157, .ref 158, .ref 159, .int u11, .ref 160, .int u12, .ref 161, .ref 162, .ref 163, .ref 164, .int u13, .ref 165, .ref 166]) kc_43_10 rfl rfl rfl A14 rfl rfl rfl (Nat.le_of_ble_eq_true rfl) rfl (fun hh17 eh16 => ?_)
    have K18 := xk_pf (k := 41) (v := 1) K (xk_wf rfl) xD_115 A14 rfl (by first | omega | decide) (by first | omega | decide) eh16 rfl
    refine xi_aload_n (pc' := 14) (x := 115) kc_43_13 rfl rfl ?_
    refine xi_virtual (mj := 44) (as := []) (st1 := []) (lv0 := [(0, .ref 115)]) kc_43_14 rfl rfl rfl rfl rfl eh16.1 (Nat.le_of_ble_eq_true rfl) (hJ _ _ _ _ (by decide)) (xm_le ml_44 rfl) rfl ?_
    refine mt_44_0 hJ hov1 hov2 (d := d + 4)  K18.1 (fun hh20 K21 => ?_)
    have K22 := xk_tr K18 K21 rfl
    refine xp_115 K22.1 (fun u23 u24 u25 u26 u27 u28 u29 u30 u31 u32 u33 u34 u35 bu23 bu24 bu25 bu26 bu27 bu28 bu29 bu30 bu31 bu32 bu33 bu34 bu35 A36 => ?_)
    have e37 : u2 = u24 := xk_eqi (q := 1) K21 rfl eh16.1 A36 rfl rfl
    subst e37
    have e38 : u5 = u27 := xk_eqi (q := 23) K21 rfl eh16.1 A36 rfl rfl
    subst e38
    show xw J ov (d + 6) 43 (17, [(0, .ref 115)], [], hh20) _
    refine xi_iconst (pc' := 18) (v := 0) kc_43_17 rfl rfl ?_
    refine xi_istore_n (pc' := 19) (lv' := [(1, .int 0), (0, .ref 115)]) kc_43_18 rfl rfl (xm_lt ml_43 rfl) ?_
    have zc0 : (0 : Int32).toInt = 0 := by decide
    refine xw_lv (b := [(0, .ref 115), (1, .int 0)]) (lvS_cons (lvS_cons (lvS_nil (show ([1, 0] : List Nat).Nodup by decide)) rfl) rfl) ?_
    exact (lp_43_0 hJ hov1 hov2 (d := d) (hb := hh20) (fun h9 K9 => kk h9 (xk_tr K22 K9 rfl)) 65) 0 hh20 (by omega) (xk_re K22.1) (by omega)
  · refine xi_iff (pc' := 7) kc_43_4 rfl (xc_eq_f (X := u9.toInt) (Y := 0) rfl (by decide) (by omega)) ?_
    refine xi_return kc_43_7 mr_43 ?_
    exact kk h K
set_option maxHeartbeats 4000000 in
theorem mt_41_0 {J : xe_J} {ov : List (List Int32)} (hJ : ∀ d mj as h, mj ≠ xe_loff → J d mj as h = none) (hov1 : ov[1]? = some [10, 0, 0, 0, 0, 0]) (hov2 : ov[2]? = some [99, 30, 50, 50, 1, 99999]) {d : Nat} {Q : Option Value → xe_H → Prop} {h : xe_H} {x1 : Int32} (T : xt h) (kk : (∀ (r : Int64) (h' : xe_H), xk [(0, 9), (115, 1), (83, 0), (29, 0), (31, 0), (33, 0), (35, 0), (37, 0), (39, 0), (41, 0), (43, 0), (45, 0), (47, 0), (49, 0), (51, 0), (125, 0), (29, 2), (31, 2), (33, 2), (35, 2), (37, 2), (39, 2), (41, 2), (43, 2), (45, 2), (47, 2), (49, 2), (51, 2), (127, 0), (1, 5), (115, 23)] h h' → Q (some (.long r)) h')) : xw J ov (d + 7) 41 (0, [(0, .ref 115), (1, .int x1)], [], h) Q := by
  have K : xk [(0, 9), (115, 1), (83, 0), (29, 0), (31, 0), (33, 0), (35, 0), (37, 0), (39, 0), (41, 0), (43, 0), (45, 0), (47, 0), (49, 0), (51, 0), (125, 0), (29, 2), (31, 2), (33, 2), (35, 2), (37, 2), (39, 2), (41, 2), (43, 2), (45, 2), (47, 2), (49, 2), (51, 2), (127, 0), (1, 5), (115, 23)] h h := xk_re T
  have rx1 := xc_rng x1
  refine xi_aload_n (pc' := 1) (x := 115) kc_41_0 rfl rfl ?_
  refine xi_iload_n (pc' := 2) (x := x1) kc_41_1 rfl rfl ?_
  refine xi_iconst (pc' := 3) (v := 0) kc_41_2 rfl rfl ?_
  refine xi_aload_n (pc' := 4) (x := 115) kc_41_3 rfl rfl ?_
  refine xp_115 K.1 (fun u1 u2 u3 u4 u5 u6 u7 u8 u9 u10 u11 u12 u13 bu1 bu2 bu3 bu4 bu5 bu6 bu7 bu8 bu9 bu10 bu11 bu12 bu13 A14 => ?_)
  refine xi_virtual (mj := 42) (as := []) (st1 := [.int 0, .int x1, .ref 115]) (lv0 := [(0, .ref 115)]) kc_41_4 rfl rfl rfl rfl rfl A14 (Nat.le_of_ble_eq_true rfl) (hJ _ _ _ _ (by decide)) (xm_le ml_42 rfl) rfl ?_
  refine xi_iconst (pc' := 1) (v := 1) kc_42_0 rfl rfl ?_
  refine xi_aload_n (pc' := 2) (x := 115) kc_42_1 rfl rfl ?_
  refine xi_getfield (pc' := 5) (v := .int u5) kc_42_2 rfl rfl rfl A14 rfl ?_
  refine xi_bipush (pc' := 7) (v := 6) kc_42_5 rfl rfl ?_
  by_cases c15 : 6 ≤ u5.toInt
  · refine xi_cmt (pc' := 17) kc_42_7 rfl (xc_ge_t (X := u5.toInt) (Y := 6) rfl (by decide) (by omega)) ?_
    refine xi_bipush (pc' := 19) (v := 6) kc_42_17 rfl rfl ?_
    refine xi_ishl (pc' := 20) (v := 64) kc_42_19 rfl rfl ?_
    refine xi_ireturn kc_42_20 mr_42 rfl ?_
    show xw J ov (d + 7) 41 (7, [(0, .ref 115), (1, .int x1)], [.int 64, .int 0, .int x1, .ref 115], h) _
    refine xi_iconst (pc' := 8) (v := 1) kc_41_7 rfl rfl ?_
    refine xi_isub (pc' := 9) (v := 63) kc_41_8 rfl rfl ?_
    refine xi_static (mj := 11) (as := [.int x1, .int 0, .int 63]) (st1 := [.ref 115]) (lv0 := [(0, .int x1), (1, .int 0), (2, .int 63)]) kc_41_9 rfl rfl (Nat.le_of_ble_eq_true rfl) rfl rfl (Nat.le_of_ble_eq_true rfl) (hJ _ _ _ _ (by decide)) (xm_le ml_11 rfl) rfl ?_
    refine xi_iload_n (pc' := 1) (x := x1) kc_11_0 rfl rfl ?_
    refine xi_iload_n (pc' := 2) (x := 0) kc_11_1 rfl rfl ?_
    by_cases c16 : x1.toInt < 0
    · refine xi_cmt (pc' := 14) kc_11_2 rfl (xc_lt_t (X := x1.toInt) (Y := 0) rfl (by decide) (by omega)) ?_
      refine xi_iconst (pc' := 15) (v := 0) kc_11_14 rfl rfl ?_
      refine xi_ireturn kc_11_15 mr_11 rfl ?_
      show xw J ov (d + 7) 41 (12, [(0, .ref 115), (1, .int x1)], [.int 0, .ref 115], h) _
      refine xi_ift (pc' := 19) kc_41_12 rfl rfl ?_
      refine xi_iconst (pc' := 20) (v := 1) kc_41_19 rfl rfl ?_
      refine xi_putfield (pc' := 23) (fs' := [.int 1, .int u2, .ref 116, .ref 117, .ref 118, .ref 119, .ref 120, .ref 121, .ref 122, .ref 123, .ref 124, .ref 125, .ref 126, .ref 127, .ref 128, .ref 129, .int u3, .ref 130, .int u4, .ref 131, .ref 132, .ref 133, .ref 134, .int u5, .ref 135, .ref 136, .ref 137, .ref 138, .ref 139, .ref 140, .ref 141, .ref 142, .int u6, .int u7, .int u8, .ref 143, .ref 144, .ref 145, .ref 146, .ref 147, .ref 148, .int u9, .ref 149, .ref 150, .ref 151, .int u10, .ref 152, .ref 153, .ref 154, .ref 155, .ref 156, .ref 157, .ref 158, .ref 159, .int u11, .ref 160, .int u12, .ref 161, .ref 162, .ref 163, .ref 164, .int u13, .ref 165, .ref 166]) kc_41_20 rfl rfl rfl A14 rfl rfl rfl (Nat.le_of_ble_eq_true rfl) rfl (fun hh18 eh17 => ?_)
      have K19 := xk_pf (k := 0) (v := 1) K (xk_wf rfl) xD_115 A14 rfl (by first | omega | decide) (by first | omega | decide) eh17 rfl
      refine xi_aload_n (pc' := 24) (x := 115) kc_41_23 rfl rfl ?_
      refine xi_getfield (pc' := 27) (v := .int 1) kc_41_24 rfl rfl rfl eh17.1 rfl ?_
      refine xi_iff (pc' := 30) kc_41_27 rfl rfl ?_
      refine xi_lconst (pc' := 31) (v := 0) kc_41_30 rfl rfl ?_
      refine xi_lreturn kc_41_31 mr_41 ?_
      exact kk 0 hh18 K19
    · refine xi_cmf (pc' := 5) kc_11_2 rfl (xc_lt_f (X := x1.toInt) (Y := 0) rfl (by decide) (by omega)) ?_
      refine xi_iload_n (pc' := 6) (x := x1) kc_11_5 rfl rfl ?_
      refine xi_iload_n (pc' := 7) (x := 63) kc_11_6 rfl rfl ?_
      by_cases c20 : 63 < x1.toInt
      · refine xi_cmt (pc' := 14) kc_11_7 rfl (xc_gt_t (X := x1.toInt) (Y := 63) rfl (by decide) (by omega)) ?_
        refine xi_iconst (pc' := 15) (v := 0) kc_11_14 rfl rfl ?_
        refine xi_ireturn kc_11_15 mr_11 rfl ?_
        show xw J ov (d + 7) 41 (12, [(0, .ref 115), (1, .int x1)], [.int 0, .ref 115], h) _
        refine xi_ift (pc' := 19) kc_41_12 rfl rfl ?_
        refine xi_iconst (pc' := 20) (v := 1) kc_41_19 rfl rfl ?_
        refine xi_putfield (pc' := 23) (fs' := [.int 1, .int u2, .ref 116, .ref 117, .ref 118, .ref 119, .ref 120, .ref 121, .ref 122, .ref 123, .ref 124, .ref 125, .ref 126, .ref 127, .ref 128, .ref 129, .int u3, .ref 130, .int u4, .ref 131, .ref 132, .ref 133, .ref 134, .int u5, .ref 135, .ref 136, .ref 137, .ref 138, .ref 139, .ref 140, .ref 141, .ref 142, .int u6, .int u7, .int u8, .ref 143, .ref 144, .ref 145, .ref 146, .ref 147, .ref 148, .int u9, .ref 149, .ref 150, .ref 151, .int u10, .ref 152, .ref 153, .ref 154, .ref 155, .ref 156, .ref 157, .ref 158, .ref 159, .int u11, .ref 160, .int u12, .ref 161, .ref 162, .ref 163, .ref 164, .int u13, .ref 165, .ref 166]) kc_41_20 rfl rfl rfl A14 rfl rfl rfl (Nat.le_of_ble_eq_true rfl) rfl (fun hh22 eh21 => ?_)
        have K23 := xk_pf (k := 0) (v := 1) K (xk_wf rfl) xD_115 A14 rfl (by first | omega | decide) (by first | omega | decide) eh21 rfl
        refine xi_aload_n (pc' := 24) (x := 115) kc_41_23 rfl rfl ?_
        refine xi_getfield (pc' := 27) (v := .int 1) kc_41_24 rfl rfl rfl eh21.1 rfl ?_
        refine xi_iff (pc' := 30) kc_41_27 rfl rfl ?_
        refine xi_lconst (pc' := 31) (v := 0) kc_41_30 rfl rfl ?_
        refine xi_lreturn kc_41_31 mr_41 ?_
        exact kk 0 hh22 K23
      · refine xi_cmf (pc' := 10) kc_11_7 rfl (xc_gt_f (X := x1.toInt) (Y := 63) rfl (by decide) (by omega)) ?_
        refine xi_iconst (pc' := 11) (v := 1) kc_11_10 rfl rfl ?_
        refine xi_goto (pc' := 15) kc_11_11 rfl ?_
        refine xi_ireturn kc_11_15 mr_11 rfl ?_
        show xw J ov (d + 7) 41 (12, [(0, .ref 115), (1, .int x1)], [.int 1, .ref 115], h) _
        refine xi_iff (pc' := 15) kc_41_12 rfl rfl ?_
        refine xi_iconst (pc' := 16) (v := 0) kc_41_15 rfl rfl ?_
        refine xi_goto (pc' := 20) kc_41_16 rfl ?_
        refine xi_putfield (pc' := 23) (fs' := [.int 0, .int u2, .ref 116, .ref 117, .ref 118, .ref 119, .ref 120, .ref 121, .ref 122, .ref 123, .ref 124, .ref 125, .ref 126, .ref 127, .ref 128, .ref 129, .int u3, .ref 130, .int u4, .ref 131, .ref 132, .ref 133, .ref 134, .int u5, .ref 135, .ref 136, .ref 137, .ref 138, .ref 139, .ref 140, .ref 141, .ref 142, .int u6, .int u7, .int u8, .ref 143, .ref 144, .ref 145, .ref 146, .ref 147, .ref 148, .int u9, .ref 149, .ref 150, .ref 151, .int u10, .ref 152, .ref 153, .ref 154, .ref 155, .ref 156, .ref 157, .ref 158, .ref 159, .int u11, .ref 160, .int u12, .ref 161, .ref 162, .ref 163, .ref 164, .int u13, .ref 165, .ref 166]) kc_41_20 rfl rfl rfl A14 rfl rfl rfl (Nat.le_of_ble_eq_true rfl) rfl (fun hh25 eh24 => ?_)
        have K26 := xk_pf (k := 0) (v := 0) K (xk_wf rfl) xD_115 A14 rfl (by first | omega | decide) (by first | omega | decide) eh24 rfl
        refine xi_aload_n (pc' := 24) (x := 115) kc_41_23 rfl rfl ?_
        refine xi_getfield (pc' := 27) (v := .int 0) kc_41_24 rfl rfl rfl eh24.1 rfl ?_
        refine xi_ift (pc' := 32) kc_41_27 rfl rfl ?_
        refine xi_aload_n (pc' := 33) (x := 115) kc_41_32 rfl rfl ?_
        refine xi_virtual (mj := 43) (as := []) (st1 := []) (lv0 := [(0, .ref 115)]) kc_41_33 rfl rfl rfl rfl rfl eh24.1 (Nat.le_of_ble_eq_true rfl) (hJ _ _ _ _ (by decide)) (xm_le ml_43 rfl) rfl ?_
        refine mt_43_0 hJ hov1 hov2 (d := d)  K26.1 (fun hh28 K29 => ?_)
        have K30 := xk_tr K26 K29 rfl
        refine xp_115 K30.1 (fun u31 u32 u33 u34 u35 u36 u37 u38 u39 u40 u41 u42 u43 bu31 bu32 bu33 bu34 bu35 bu36 bu37 bu38 bu39 bu40 bu41 bu42 bu43 A44 => ?_)
        have e45 : u2 = u32 := xk_eqi (q := 1) K29 rfl eh24.1 A44 rfl rfl
        subst e45
        have e46 : u5 = u35 := xk_eqi (q := 23) K29 rfl eh24.1 A44 rfl rfl
        subst e46
        show xw J ov (d + 7) 41 (36, [(0, .ref 115), (1, .int x1)], [], hh28) _
        refine xi_aload_n (pc' := 37) (x := 115) kc_41_36 rfl rfl ?_
        refine xi_getfield (pc' := 40) (v := .ref 149) kc_41_37 rfl rfl rfl A44 rfl ?_
        refine xi_iload_n (pc' := 41) (x := x1) kc_41_40 rfl rfl ?_
        obtain ⟨y47, A47, hy47⟩ := xk_larr K30.1 xD_149
        refine xcps2 (α := Int64) (y47.getD (Int32.toNatClampNeg x1) 0) (fun v48 ev48 => ?_)
        refine xi_laload (pc' := 42) (v := v48) kc_41_41 rfl A47 rfl (xi_in (by omega) (by rw [hy47]; omega)) ev48 ?_
        refine xi_lreturn kc_41_42 mr_41 ?_
        exact kk v48 hh28 K30
  · refine xi_cmf (pc' := 10) kc_42_7 rfl (xc_ge_f (X := u5.toInt) (Y := 6) rfl (by decide) (by omega)) ?_
    refine xi_aload_n (pc' := 11) (x := 115) kc_42_10 rfl rfl ?_
    refine xi_getfield (pc' := 14) (v := .int u5) kc_42_11 rfl rfl rfl A14 rfl ?_
    refine xi_goto (pc' := 19) kc_42_14 rfl ?_
    refine xcps2 (α := Int32) ((1 : Int32) <<< (u5 &&& 31)) (fun v49 ev49 => ?_)
    have rv49 := xc_rng v49
    have bv49 : 1 ≤ v49.toInt ∧ v49.toInt ≤ 64 := by rw [← ev49]; exact xj_shl6 (by omega) (by omega)
    refine xi_ishl (pc' := 20) (v := v49) kc_42_19 rfl ev49 ?_
    refine xi_ireturn kc_42_20 mr_42 rfl ?_
    show xw J ov (d + 7) 41 (7, [(0, .ref 115), (1, .int x1)], [.int v49, .int 0, .int x1, .ref 115], h) _
    refine xi_iconst (pc' := 8) (v := 1) kc_41_7 rfl rfl ?_
    refine xcps2 (α := Int32) (v49 - 1) (fun v50 ev50 => ?_)
    have zv50 : v50.toInt = (v49.toInt + (-1)) := by rw [← ev50]; exact (xz_sub (X := v49.toInt) (Y := 1) rfl (by decide) (by omega) (by omega)).trans (by omega)
    refine xi_isub (pc' := 9) (v := v50) kc_41_8 rfl ev50 ?_
    refine xi_static (mj := 11) (as := [.int x1, .int 0, .int v50]) (st1 := [.ref 115]) (lv0 := [(0, .int x1), (1, .int 0), (2, .int v50)]) kc_41_9 rfl rfl (Nat.le_of_ble_eq_true rfl) rfl rfl (Nat.le_of_ble_eq_true rfl) (hJ _ _ _ _ (by decide)) (xm_le ml_11 rfl) rfl ?_
    refine xi_iload_n (pc' := 1) (x := x1) kc_11_0 rfl rfl ?_
    refine xi_iload_n (pc' := 2) (x := 0) kc_11_1 rfl rfl ?_
    by_cases c51 : x1.toInt < 0
    · refine xi_cmt (pc' := 14) kc_11_2 rfl (xc_lt_t (X := x1.toInt) (Y := 0) rfl (by decide) (by omega)) ?_
      refine xi_iconst (pc' := 15) (v := 0) kc_11_14 rfl rfl ?_
      refine xi_ireturn kc_11_15 mr_11 rfl ?_
      show xw J ov (d + 7) 41 (12, [(0, .ref 115), (1, .int x1)], [.int 0, .ref 115], h) _
      refine xi_ift (pc' := 19) kc_41_12 rfl rfl ?_
      refine xi_iconst (pc' := 20) (v := 1) kc_41_19 rfl rfl ?_
      refine xi_putfield (pc' := 23) (fs' := [.int 1, .int u2, .ref 116, .ref 117, .ref 118, .ref 119, .ref 120, .ref 121, .ref 122, .ref 123, .ref 124, .ref 125, .ref 126, .ref 127, .ref 128, .ref 129, .int u3, .ref 130, .int u4, .ref 131, .ref 132, .ref 133, .ref 134, .int u5, .ref 135, .ref 136, .ref 137, .ref 138, .ref 139, .ref 140, .ref 141, .ref 142, .int u6, .int u7, .int u8, .ref 143, .ref 144, .ref 145, .ref 146, .ref 147, .ref 148, .int u9, .ref 149, .ref 150, .ref 151, .int u10, .ref 152, .ref 153, .ref 154, .ref 155, .ref 156, .ref 157, .ref 158, .ref 159, .int u11, .ref 160, .int u12, .ref 161, .ref 162, .ref 163, .ref 164, .int u13, .ref 165, .ref 166]) kc_41_20 rfl rfl rfl A14 rfl rfl rfl (Nat.le_of_ble_eq_true rfl) rfl (fun hh53 eh52 => ?_)
      have K54 := xk_pf (k := 0) (v := 1) K (xk_wf rfl) xD_115 A14 rfl (by first | omega | decide) (by first | omega | decide) eh52 rfl
      refine xi_aload_n (pc' := 24) (x := 115) kc_41_23 rfl rfl ?_
      refine xi_getfield (pc' := 27) (v := .int 1) kc_41_24 rfl rfl rfl eh52.1 rfl ?_
      refine xi_iff (pc' := 30) kc_41_27 rfl rfl ?_
      refine xi_lconst (pc' := 31) (v := 0) kc_41_30 rfl rfl ?_
      refine xi_lreturn kc_41_31 mr_41 ?_
      exact kk 0 hh53 K54
    · refine xi_cmf (pc' := 5) kc_11_2 rfl (xc_lt_f (X := x1.toInt) (Y := 0) rfl (by decide) (by omega)) ?_
      refine xi_iload_n (pc' := 6) (x := x1) kc_11_5 rfl rfl ?_
      refine xi_iload_n (pc' := 7) (x := v50) kc_11_6 rfl rfl ?_
      by_cases c55 : (v49.toInt + (-1)) < x1.toInt
      · refine xi_cmt (pc' := 14) kc_11_7 rfl (xc_gt_t (X := x1.toInt) (Y := (v49.toInt + (-1))) rfl zv50 (by omega)) ?_
        refine xi_iconst (pc' := 15) (v := 0) kc_11_14 rfl rfl ?_
        refine xi_ireturn kc_11_15 mr_11 rfl ?_
        show xw J ov (d + 7) 41 (12, [(0, .ref 115), (1, .int x1)], [.int 0, .ref 115], h) _
        refine xi_ift (pc' := 19) kc_41_12 rfl rfl ?_
        refine xi_iconst (pc' := 20) (v := 1) kc_41_19 rfl rfl ?_
        refine xi_putfield (pc' := 23) (fs' := [.int 1, .int u2, .ref 116, .ref 117, .ref 118, .ref 119, .ref 120, .ref 121, .ref 122, .ref 123, .ref 124, .ref 125, .ref 126, .ref 127, .ref 128, .ref 129, .int u3, .ref 130, .int u4, .ref 131, .ref 132, .ref 133, .ref 134, .int u5, .ref 135, .ref 136, .ref 137, .ref 138, .ref 139, .ref 140, .ref 141, .ref 142, .int u6, .int u7, .int u8, .ref 143, .ref 144, .ref 145, .ref 146, .ref 147, .ref 148, .int u9, .ref 149, .ref 150, .ref 151, .int u10, .ref 152, .ref 153, .ref 154, .ref 155, .ref 156, .ref 157, .ref 158, .ref 159, .int u11, .ref 160, .int u12, .ref 161, .ref 162, .ref 163, .ref 164, .int u13, .ref 165, .ref 166]) kc_41_20 rfl rfl rfl A14 rfl rfl rfl (Nat.le_of_ble_eq_true rfl) rfl (fun hh57 eh56 => ?_)
        have K58 := xk_pf (k := 0) (v := 1) K (xk_wf rfl) xD_115 A14 rfl (by first | omega | decide) (by first | omega | decide) eh56 rfl
        refine xi_aload_n (pc' := 24) (x := 115) kc_41_23 rfl rfl ?_
        refine xi_getfield (pc' := 27) (v := .int 1) kc_41_24 rfl rfl rfl eh56.1 rfl ?_
        refine xi_iff (pc' := 30) kc_41_27 rfl rfl ?_
        refine xi_lconst (pc' := 31) (v := 0) kc_41_30 rfl rfl ?_
        refine xi_lreturn kc_41_31 mr_41 ?_
        exact kk 0 hh57 K58
      · refine xi_cmf (pc' := 10) kc_11_7 rfl (xc_gt_f (X := x1.toInt) (Y := (v49.toInt + (-1))) rfl zv50 (by omega)) ?_
        refine xi_iconst (pc' := 11) (v := 1) kc_11_10 rfl rfl ?_
        refine xi_goto (pc' := 15) kc_11_11 rfl ?_
        refine xi_ireturn kc_11_15 mr_11 rfl ?_
        show xw J ov (d + 7) 41 (12, [(0, .ref 115), (1, .int x1)], [.int 1, .ref 115], h) _
        refine xi_iff (pc' := 15) kc_41_12 rfl rfl ?_
        refine xi_iconst (pc' := 16) (v := 0) kc_41_15 rfl rfl ?_
        refine xi_goto (pc' := 20) kc_41_16 rfl ?_
        refine xi_putfield (pc' := 23) (fs' := [.int 0, .int u2, .ref 116, .ref 117, .ref 118, .ref 119, .ref 120, .ref 121, .ref 122, .ref 123, .ref 124, .ref 125, .ref 126, .ref 127, .ref 128, .ref 129, .int u3, .ref 130, .int u4, .ref 131, .ref 132, .ref 133, .ref 134, .int u5, .ref 135, .ref 136, .ref 137, .ref 138, .ref 139, .ref 140, .ref 141, .ref 142, .int u6, .int u7, .int u8, .ref 143, .ref 144, .ref 145, .ref 146, .ref 147, .ref 148, .int u9, .ref 149, .ref 150, .ref 151, .int u10, .ref 152, .ref 153, .ref 154, .ref 155, .ref 156, .ref 157, .ref 158, .ref 159, .int u11, .ref 160, .int u12, .ref 161, .ref 162, .ref 163, .ref 164, .int u13, .ref 165, .ref 166]) kc_41_20 rfl rfl rfl A14 rfl rfl rfl (Nat.le_of_ble_eq_true rfl) rfl (fun hh60 eh59 => ?_)
        have K61 := xk_pf (k := 0) (v := 0) K (xk_wf rfl) xD_115 A14 rfl (by first | omega | decide) (by first | omega | decide) eh59 rfl
        refine xi_aload_n (pc' := 24) (x := 115) kc_41_23 rfl rfl ?_
        refine xi_getfield (pc' := 27) (v := .int 0) kc_41_24 rfl rfl rfl eh59.1 rfl ?_
        refine xi_ift (pc' := 32) kc_41_27 rfl rfl ?_
        refine xi_aload_n (pc' := 33) (x := 115) kc_41_32 rfl rfl ?_
        refine xi_virtual (mj := 43) (as := []) (st1 := []) (lv0 := [(0, .ref 115)]) kc_41_33 rfl rfl rfl rfl rfl eh59.1 (Nat.le_of_ble_eq_true rfl) (hJ _ _ _ _ (by decide)) (xm_le ml_43 rfl) rfl ?_
        refine mt_43_0 hJ hov1 hov2 (d := d)  K61.1 (fun hh63 K64 => ?_)
        have K65 := xk_tr K61 K64 rfl
        refine xp_115 K65.1 (fun u66 u67 u68 u69 u70 u71 u72 u73 u74 u75 u76 u77 u78 bu66 bu67 bu68 bu69 bu70 bu71 bu72 bu73 bu74 bu75 bu76 bu77 bu78 A79 => ?_)
        have e80 : u2 = u67 := xk_eqi (q := 1) K64 rfl eh59.1 A79 rfl rfl
        subst e80
        have e81 : u5 = u70 := xk_eqi (q := 23) K64 rfl eh59.1 A79 rfl rfl
        subst e81
        show xw J ov (d + 7) 41 (36, [(0, .ref 115), (1, .int x1)], [], hh63) _
        refine xi_aload_n (pc' := 37) (x := 115) kc_41_36 rfl rfl ?_
        refine xi_getfield (pc' := 40) (v := .ref 149) kc_41_37 rfl rfl rfl A79 rfl ?_
        refine xi_iload_n (pc' := 41) (x := x1) kc_41_40 rfl rfl ?_
        obtain ⟨y82, A82, hy82⟩ := xk_larr K65.1 xD_149
        refine xcps2 (α := Int64) (y82.getD (Int32.toNatClampNeg x1) 0) (fun v83 ev83 => ?_)
        refine xi_laload (pc' := 42) (v := v83) kc_41_41 rfl A82 rfl (xi_in (by omega) (by rw [hy82]; omega)) ev83 ?_
        refine xi_lreturn kc_41_42 mr_41 ?_
        exact kk v83 hh63 K65
set_option maxHeartbeats 4000000 in
theorem mt_46_0 {J : xe_J} {ov : List (List Int32)} (hJ : ∀ d mj as h, mj ≠ xe_loff → J d mj as h = none) (hov1 : ov[1]? = some [10, 0, 0, 0, 0, 0]) (hov2 : ov[2]? = some [99, 30, 50, 50, 1, 99999]) {d : Nat} {Q : Option Value → xe_H → Prop} {h : xe_H} {x1 : Int32} {x2 : Int32} (T : xt h) (kk : (∀ (r : Int32) (h' : xe_H), xk [(0, 9), (115, 1), (83, 0), (29, 0), (31, 0), (33, 0), (35, 0), (37, 0), (39, 0), (41, 0), (43, 0), (45, 0), (47, 0), (49, 0), (51, 0), (125, 0), (29, 2), (31, 2), (33, 2), (35, 2), (37, 2), (39, 2), (41, 2), (43, 2), (45, 2), (47, 2), (49, 2), (51, 2), (127, 0), (1, 5), (115, 23)] h h' → Q (some (.int r)) h')) : xw J ov (d + 6) 46 (0, [(0, .ref 115), (1, .int x1), (2, .int x2)], [], h) Q := by
  have K : xk [(0, 9), (115, 1), (83, 0), (29, 0), (31, 0), (33, 0), (35, 0), (37, 0), (39, 0), (41, 0), (43, 0), (45, 0), (47, 0), (49, 0), (51, 0), (125, 0), (29, 2), (31, 2), (33, 2), (35, 2), (37, 2), (39, 2), (41, 2), (43, 2), (45, 2), (47, 2), (49, 2), (51, 2), (127, 0), (1, 5), (115, 23)] h h := xk_re T
  have rx1 := xc_rng x1
  have rx2 := xc_rng x2
  refine xi_aload_n (pc' := 1) (x := 115) kc_46_0 rfl rfl ?_
  refine xi_iconst (pc' := 2) (v := 0) kc_46_1 rfl rfl ?_
  refine xp_115 K.1 (fun u1 u2 u3 u4 u5 u6 u7 u8 u9 u10 u11 u12 u13 bu1 bu2 bu3 bu4 bu5 bu6 bu7 bu8 bu9 bu10 bu11 bu12 bu13 A14 => ?_)
  refine xi_putfield (pc' := 5) (fs' := [.int 0, .int u2, .ref 116, .ref 117, .ref 118, .ref 119, .ref 120, .ref 121, .ref 122, .ref 123, .ref 124, .ref 125, .ref 126, .ref 127, .ref 128, .ref 129, .int u3, .ref 130, .int u4, .ref 131, .ref 132, .ref 133, .ref 134, .int u5, .ref 135, .ref 136, .ref 137, .ref 138, .ref 139, .ref 140, .ref 141, .ref 142, .int u6, .int u7, .int u8, .ref 143, .ref 144, .ref 145, .ref 146, .ref 147, .ref 148, .int u9, .ref 149, .ref 150, .ref 151, .int u10, .ref 152, .ref 153, .ref 154, .ref 155, .ref 156, .ref 157, .ref 158, .ref 159, .int u11, .ref 160, .int u12, .ref 161, .ref 162, .ref 163, .ref 164, .int u13, .ref 165, .ref 166]) kc_46_2 rfl rfl rfl A14 rfl rfl rfl (Nat.le_of_ble_eq_true rfl) rfl (fun hh16 eh15 => ?_)
  have K17 := xk_pf (k := 0) (v := 0) K (xk_wf rfl) xD_115 A14 rfl (by first | omega | decide) (by first | omega | decide) eh15 rfl
  refine xi_aload_n (pc' := 6) (x := 115) kc_46_5 rfl rfl ?_
  refine xi_iload_n (pc' := 7) (x := x2) kc_46_6 rfl rfl ?_
  refine xi_virtual (mj := 31) (as := [.int x2]) (st1 := []) (lv0 := [(0, .ref 115), (1, .int x2)]) kc_46_7 rfl rfl rfl rfl rfl eh15.1 (Nat.le_of_ble_eq_true rfl) (hJ _ _ _ _ (by decide)) (xm_le ml_31 rfl) rfl ?_
  refine xi_iload_n (pc' := 1) (x := x2) kc_31_0 rfl rfl ?_
  refine xi_static (mj := 24) (as := [.int x2]) (st1 := []) (lv0 := [(0, .int x2)]) kc_31_1 rfl rfl (Nat.le_of_ble_eq_true rfl) rfl rfl (Nat.le_of_ble_eq_true rfl) (hJ _ _ _ _ (by decide)) (xm_le ml_24 rfl) rfl ?_
  refine xi_iload_n (pc' := 1) (x := x2) kc_24_0 rfl rfl ?_
  refine xi_iconst (pc' := 2) (v := 0) kc_24_1 rfl rfl ?_
  refine xi_bipush (pc' := 4) (v := 11) kc_24_2 rfl rfl ?_
  refine xi_static (mj := 11) (as := [.int x2, .int 0, .int 11]) (st1 := []) (lv0 := [(0, .int x2), (1, .int 0), (2, .int 11)]) kc_24_4 rfl rfl (Nat.le_of_ble_eq_true rfl) rfl rfl (Nat.le_of_ble_eq_true rfl) (hJ _ _ _ _ (by decide)) (xm_le ml_11 rfl) rfl ?_
  refine xi_iload_n (pc' := 1) (x := x2) kc_11_0 rfl rfl ?_
  refine xi_iload_n (pc' := 2) (x := 0) kc_11_1 rfl rfl ?_
  by_cases c18 : x2.toInt < 0
  · refine xi_cmt (pc' := 14) kc_11_2 rfl (xc_lt_t (X := x2.toInt) (Y := 0) rfl (by decide) (by omega)) ?_
    refine xi_iconst (pc' := 15) (v := 0) kc_11_14 rfl rfl ?_
    refine xi_ireturn kc_11_15 mr_11 rfl ?_
    show xw J ov (d + 4) 24 (7, [(0, .int x2)], [.int 0], hh16) _
    refine xi_ireturn kc_24_7 mr_24 rfl ?_
    show xw J ov (d + 5) 31 (4, [(0, .ref 115), (1, .int x2)], [.int 0], hh16) _
    refine xi_ift (pc' := 20) kc_31_4 rfl rfl ?_
    refine xi_iconst (pc' := 21) (v := 0) kc_31_20 rfl rfl ?_
    refine xi_ireturn kc_31_21 mr_31 rfl ?_
    show xw J ov (d + 6) 46 (10, [(0, .ref 115), (1, .int x1), (2, .int x2)], [.int 0], hh16) _
    refine xi_iff (pc' := 13) kc_46_10 rfl rfl ?_
    refine xi_aload_n (pc' := 14) (x := 115) kc_46_13 rfl rfl ?_
    refine xi_iconst (pc' := 15) (v := (-1)) kc_46_14 rfl rfl ?_
    refine xi_virtual (mj := 12) (as := [.int (-1)]) (st1 := []) (lv0 := [(0, .ref 115), (1, .int (-1))]) kc_46_15 rfl rfl rfl rfl rfl eh15.1 (Nat.le_of_ble_eq_true rfl) (hJ _ _ _ _ (by decide)) (xm_le ml_12 rfl) rfl ?_
    refine xi_aload_n (pc' := 1) (x := 115) kc_12_0 rfl rfl ?_
    refine xi_getfield (pc' := 4) (v := .ref 140) kc_12_1 rfl rfl rfl eh15.1 rfl ?_
    refine xi_iload_n (pc' := 5) (x := (-1)) kc_12_4 rfl rfl ?_
    refine xi_ineg (pc' := 6) (v := 1) kc_12_5 rfl rfl ?_
    refine xi_dup2 (pc' := 7) kc_12_6 rfl ⟨rfl, rfl⟩ ?_
    refine xcps4 (xk_arr K17.1 xD_140) (fun y19 A19 hy19 ry19 => ?_)
    refine xcps4 (xj_get hy19 ry19 (i := 1) (by decide) (by decide)) (fun v20 ev20 bv20 dv20 => ?_)
    refine xi_iaload (pc' := 8) (v := v20) kc_12_7 rfl A19 (by decide) rfl (xi_in (by decide) (by rw [hy19]; decide)) ev20 ?_
    refine xi_iconst (pc' := 9) (v := 1) kc_12_8 rfl rfl ?_
    refine xcps2 (α := Int32) ((v20 : Int32) + 1) (fun v21 ev21 => ?_)
    have rv21 := xc_rng v21
    refine xi_iadd (pc' := 10) (v := v21) kc_12_9 rfl ev21 ?_
    refine xcps4 (xj_set (v := v21) hy19 ry19 1 (by first | omega | decide) (by first | omega | decide)) (fun y22 s22 hy22 ry22 => ?_)
    refine xi_iastore (pc' := 11) (x' := y22) kc_12_10 rfl A19 rfl (xi_in (by decide) (by rw [hy19]; decide)) s22 (fun hh22 eh22 => ?_)
    have K23 := xk_pa K17 (xk_wa rfl) xD_140 hy22 ry22 eh22
    refine xi_iload_n (pc' := 12) (x := (-1)) kc_12_11 rfl rfl ?_
    refine xi_ireturn kc_12_12 mr_12 rfl ?_
    show xw J ov (d + 6) 46 (18, [(0, .ref 115), (1, .int x1), (2, .int x2)], [.int (-1)], hh22) _
    refine xi_ireturn kc_46_18 mr_46 rfl ?_
    have zcm1 : ((-1) : Int32).toInt = (-1) := by decide
    exact kk (-1) hh22 K23
  · refine xi_cmf (pc' := 5) kc_11_2 rfl (xc_lt_f (X := x2.toInt) (Y := 0) rfl (by decide) (by omega)) ?_
    refine xi_iload_n (pc' := 6) (x := x2) kc_11_5 rfl rfl ?_
    refine xi_iload_n (pc' := 7) (x := 11) kc_11_6 rfl rfl ?_
    by_cases c24 : 11 < x2.toInt
    · refine xi_cmt (pc' := 14) kc_11_7 rfl (xc_gt_t (X := x2.toInt) (Y := 11) rfl (by decide) (by omega)) ?_
      refine xi_iconst (pc' := 15) (v := 0) kc_11_14 rfl rfl ?_
      refine xi_ireturn kc_11_15 mr_11 rfl ?_
      show xw J ov (d + 4) 24 (7, [(0, .int x2)], [.int 0], hh16) _
      refine xi_ireturn kc_24_7 mr_24 rfl ?_
      show xw J ov (d + 5) 31 (4, [(0, .ref 115), (1, .int x2)], [.int 0], hh16) _
      refine xi_ift (pc' := 20) kc_31_4 rfl rfl ?_
      refine xi_iconst (pc' := 21) (v := 0) kc_31_20 rfl rfl ?_
      refine xi_ireturn kc_31_21 mr_31 rfl ?_
      show xw J ov (d + 6) 46 (10, [(0, .ref 115), (1, .int x1), (2, .int x2)], [.int 0], hh16) _
      refine xi_iff (pc' := 13) kc_46_10 rfl rfl ?_
      refine xi_aload_n (pc' := 14) (x := 115) kc_46_13 rfl rfl ?_
      refine xi_iconst (pc' := 15) (v := (-1)) kc_46_14 rfl rfl ?_
      refine xi_virtual (mj := 12) (as := [.int (-1)]) (st1 := []) (lv0 := [(0, .ref 115), (1, .int (-1))]) kc_46_15 rfl rfl rfl rfl rfl eh15.1 (Nat.le_of_ble_eq_true rfl) (hJ _ _ _ _ (by decide)) (xm_le ml_12 rfl) rfl ?_
      refine xi_aload_n (pc' := 1) (x := 115) kc_12_0 rfl rfl ?_
      refine xi_getfield (pc' := 4) (v := .ref 140) kc_12_1 rfl rfl rfl eh15.1 rfl ?_
      refine xi_iload_n (pc' := 5) (x := (-1)) kc_12_4 rfl rfl ?_
      refine xi_ineg (pc' := 6) (v := 1) kc_12_5 rfl rfl ?_
      refine xi_dup2 (pc' := 7) kc_12_6 rfl ⟨rfl, rfl⟩ ?_
      refine xcps4 (xk_arr K17.1 xD_140) (fun y25 A25 hy25 ry25 => ?_)
      refine xcps4 (xj_get hy25 ry25 (i := 1) (by decide) (by decide)) (fun v26 ev26 bv26 dv26 => ?_)
      refine xi_iaload (pc' := 8) (v := v26) kc_12_7 rfl A25 (by decide) rfl (xi_in (by decide) (by rw [hy25]; decide)) ev26 ?_
      refine xi_iconst (pc' := 9) (v := 1) kc_12_8 rfl rfl ?_
      refine xcps2 (α := Int32) ((v26 : Int32) + 1) (fun v27 ev27 => ?_)
      have rv27 := xc_rng v27
      refine xi_iadd (pc' := 10) (v := v27) kc_12_9 rfl ev27 ?_
      refine xcps4 (xj_set (v := v27) hy25 ry25 1 (by first | omega | decide) (by first | omega | decide)) (fun y28 s28 hy28 ry28 => ?_)
      refine xi_iastore (pc' := 11) (x' := y28) kc_12_10 rfl A25 rfl (xi_in (by decide) (by rw [hy25]; decide)) s28 (fun hh28 eh28 => ?_)
      have K29 := xk_pa K17 (xk_wa rfl) xD_140 hy28 ry28 eh28
      refine xi_iload_n (pc' := 12) (x := (-1)) kc_12_11 rfl rfl ?_
      refine xi_ireturn kc_12_12 mr_12 rfl ?_
      show xw J ov (d + 6) 46 (18, [(0, .ref 115), (1, .int x1), (2, .int x2)], [.int (-1)], hh28) _
      refine xi_ireturn kc_46_18 mr_46 rfl ?_
      have zcm1 : ((-1) : Int32).toInt = (-1) := by decide
      exact kk (-1) hh28 K29
    · refine xi_cmf (pc' := 10) kc_11_7 rfl (xc_gt_f (X := x2.toInt) (Y := 11) rfl (by decide) (by omega)) ?_
      refine xi_iconst (pc' := 11) (v := 1) kc_11_10 rfl rfl ?_
      refine xi_goto (pc' := 15) kc_11_11 rfl ?_
      refine xi_ireturn kc_11_15 mr_11 rfl ?_
      show xw J ov (d + 4) 24 (7, [(0, .int x2)], [.int 1], hh16) _
      refine xi_ireturn kc_24_7 mr_24 rfl ?_
      show xw J ov (d + 5) 31 (4, [(0, .ref 115), (1, .int x2)], [.int 1], hh16) _
      refine xi_iff (pc' := 7) kc_31_4 rfl rfl ?_
      refine xi_aload_n (pc' := 8) (x := 115) kc_31_7 rfl rfl ?_
      refine xi_getfield (pc' := 11) (v := .ref 125) kc_31_8 rfl rfl rfl eh15.1 rfl ?_
      refine xi_iload_n (pc' := 12) (x := x2) kc_31_11 rfl rfl ?_
      refine xcps4 (xk_arr K17.1 xD_125) (fun y30 A30 hy30 ry30 => ?_)
      refine xcps4 (xj_get hy30 ry30 (i := x2) (by omega) (by omega)) (fun v31 ev31 bv31 dv31 => ?_)
      refine xi_iaload (pc' := 13) (v := v31) kc_31_12 rfl A30 (by decide) rfl (xi_in (by omega) (by rw [hy30]; omega)) ev31 ?_
      by_cases c32 : v31.toInt < 0
      · refine xi_ift (pc' := 20) kc_31_13 rfl (xc_lt_t (X := v31.toInt) (Y := 0) rfl (by decide) (by omega)) ?_
        refine xi_iconst (pc' := 21) (v := 0) kc_31_20 rfl rfl ?_
        refine xi_ireturn kc_31_21 mr_31 rfl ?_
        show xw J ov (d + 6) 46 (10, [(0, .ref 115), (1, .int x1), (2, .int x2)], [.int 0], hh16) _
        refine xi_iff (pc' := 13) kc_46_10 rfl rfl ?_
        refine xi_aload_n (pc' := 14) (x := 115) kc_46_13 rfl rfl ?_
        refine xi_iconst (pc' := 15) (v := (-1)) kc_46_14 rfl rfl ?_
        refine xi_virtual (mj := 12) (as := [.int (-1)]) (st1 := []) (lv0 := [(0, .ref 115), (1, .int (-1))]) kc_46_15 rfl rfl rfl rfl rfl eh15.1 (Nat.le_of_ble_eq_true rfl) (hJ _ _ _ _ (by decide)) (xm_le ml_12 rfl) rfl ?_
        refine xi_aload_n (pc' := 1) (x := 115) kc_12_0 rfl rfl ?_
        refine xi_getfield (pc' := 4) (v := .ref 140) kc_12_1 rfl rfl rfl eh15.1 rfl ?_
        refine xi_iload_n (pc' := 5) (x := (-1)) kc_12_4 rfl rfl ?_
        refine xi_ineg (pc' := 6) (v := 1) kc_12_5 rfl rfl ?_
        refine xi_dup2 (pc' := 7) kc_12_6 rfl ⟨rfl, rfl⟩ ?_
        refine xcps4 (xk_arr K17.1 xD_140) (fun y33 A33 hy33 ry33 => ?_)
        refine xcps4 (xj_get hy33 ry33 (i := 1) (by decide) (by decide)) (fun v34 ev34 bv34 dv34 => ?_)
        refine xi_iaload (pc' := 8) (v := v34) kc_12_7 rfl A33 (by decide) rfl (xi_in (by decide) (by rw [hy33]; decide)) ev34 ?_
        refine xi_iconst (pc' := 9) (v := 1) kc_12_8 rfl rfl ?_
        refine xcps2 (α := Int32) ((v34 : Int32) + 1) (fun v35 ev35 => ?_)
        have rv35 := xc_rng v35
        refine xi_iadd (pc' := 10) (v := v35) kc_12_9 rfl ev35 ?_
        refine xcps4 (xj_set (v := v35) hy33 ry33 1 (by first | omega | decide) (by first | omega | decide)) (fun y36 s36 hy36 ry36 => ?_)
        refine xi_iastore (pc' := 11) (x' := y36) kc_12_10 rfl A33 rfl (xi_in (by decide) (by rw [hy33]; decide)) s36 (fun hh36 eh36 => ?_)
        have K37 := xk_pa K17 (xk_wa rfl) xD_140 hy36 ry36 eh36
        refine xi_iload_n (pc' := 12) (x := (-1)) kc_12_11 rfl rfl ?_
        refine xi_ireturn kc_12_12 mr_12 rfl ?_
        show xw J ov (d + 6) 46 (18, [(0, .ref 115), (1, .int x1), (2, .int x2)], [.int (-1)], hh36) _
        refine xi_ireturn kc_46_18 mr_46 rfl ?_
        have zcm1 : ((-1) : Int32).toInt = (-1) := by decide
        exact kk (-1) hh36 K37
      · refine xi_iff (pc' := 16) kc_31_13 rfl (xc_lt_f (X := v31.toInt) (Y := 0) rfl (by decide) (by omega)) ?_
        refine xi_iconst (pc' := 17) (v := 1) kc_31_16 rfl rfl ?_
        refine xi_goto (pc' := 21) kc_31_17 rfl ?_
        refine xi_ireturn kc_31_21 mr_31 rfl ?_
        show xw J ov (d + 6) 46 (10, [(0, .ref 115), (1, .int x1), (2, .int x2)], [.int 1], hh16) _
        refine xi_ift (pc' := 19) kc_46_10 rfl rfl ?_
        refine xi_iload_n (pc' := 20) (x := x1) kc_46_19 rfl rfl ?_
        refine xi_iconst (pc' := 21) (v := 0) kc_46_20 rfl rfl ?_
        refine xi_aload_n (pc' := 22) (x := 115) kc_46_21 rfl rfl ?_
        refine xi_virtual (mj := 42) (as := []) (st1 := [.int 0, .int x1]) (lv0 := [(0, .ref 115)]) kc_46_22 rfl rfl rfl rfl rfl eh15.1 (Nat.le_of_ble_eq_true rfl) (hJ _ _ _ _ (by decide)) (xm_le ml_42 rfl) rfl ?_
        refine xi_iconst (pc' := 1) (v := 1) kc_42_0 rfl rfl ?_
        refine xi_aload_n (pc' := 2) (x := 115) kc_42_1 rfl rfl ?_
        refine xi_getfield (pc' := 5) (v := .int u5) kc_42_2 rfl rfl rfl eh15.1 rfl ?_
        refine xi_bipush (pc' := 7) (v := 6) kc_42_5 rfl rfl ?_
        by_cases c38 : 6 ≤ u5.toInt
        · refine xi_cmt (pc' := 17) kc_42_7 rfl (xc_ge_t (X := u5.toInt) (Y := 6) rfl (by decide) (by omega)) ?_
          refine xi_bipush (pc' := 19) (v := 6) kc_42_17 rfl rfl ?_
          refine xi_ishl (pc' := 20) (v := 64) kc_42_19 rfl rfl ?_
          refine xi_ireturn kc_42_20 mr_42 rfl ?_
          show xw J ov (d + 6) 46 (25, [(0, .ref 115), (1, .int x1), (2, .int x2)], [.int 64, .int 0, .int x1], hh16) _
          refine xi_iconst (pc' := 26) (v := 1) kc_46_25 rfl rfl ?_
          refine xi_isub (pc' := 27) (v := 63) kc_46_26 rfl rfl ?_
          refine xi_static (mj := 11) (as := [.int x1, .int 0, .int 63]) (st1 := []) (lv0 := [(0, .int x1), (1, .int 0), (2, .int 63)]) kc_46_27 rfl rfl (Nat.le_of_ble_eq_true rfl) rfl rfl (Nat.le_of_ble_eq_true rfl) (hJ _ _ _ _ (by decide)) (xm_le ml_11 rfl) rfl ?_
          refine xi_iload_n (pc' := 1) (x := x1) kc_11_0 rfl rfl ?_
          refine xi_iload_n (pc' := 2) (x := 0) kc_11_1 rfl rfl ?_
          by_cases c39 : x1.toInt < 0
          · refine xi_cmt (pc' := 14) kc_11_2 rfl (xc_lt_t (X := x1.toInt) (Y := 0) rfl (by decide) (by omega)) ?_
            refine xi_iconst (pc' := 15) (v := 0) kc_11_14 rfl rfl ?_
            refine xi_ireturn kc_11_15 mr_11 rfl ?_
            show xw J ov (d + 6) 46 (30, [(0, .ref 115), (1, .int x1), (2, .int x2)], [.int 0], hh16) _
            refine xi_iff (pc' := 33) kc_46_30 rfl rfl ?_
            refine xi_aload_n (pc' := 34) (x := 115) kc_46_33 rfl rfl ?_
            refine xi_bipush (pc' := 36) (v := (-2)) kc_46_34 rfl rfl ?_
            refine xi_virtual (mj := 12) (as := [.int (-2)]) (st1 := []) (lv0 := [(0, .ref 115), (1, .int (-2))]) kc_46_36 rfl rfl rfl rfl rfl eh15.1 (Nat.le_of_ble_eq_true rfl) (hJ _ _ _ _ (by decide)) (xm_le ml_12 rfl) rfl ?_
            refine xi_aload_n (pc' := 1) (x := 115) kc_12_0 rfl rfl ?_
            refine xi_getfield (pc' := 4) (v := .ref 140) kc_12_1 rfl rfl rfl eh15.1 rfl ?_
            refine xi_iload_n (pc' := 5) (x := (-2)) kc_12_4 rfl rfl ?_
            refine xi_ineg (pc' := 6) (v := 2) kc_12_5 rfl rfl ?_
            refine xi_dup2 (pc' := 7) kc_12_6 rfl ⟨rfl, rfl⟩ ?_
            refine xcps4 (xk_arr K17.1 xD_140) (fun y40 A40 hy40 ry40 => ?_)
            refine xcps4 (xj_get hy40 ry40 (i := 2) (by decide) (by decide)) (fun v41 ev41 bv41 dv41 => ?_)
            refine xi_iaload (pc' := 8) (v := v41) kc_12_7 rfl A40 (by decide) rfl (xi_in (by decide) (by rw [hy40]; decide)) ev41 ?_
            refine xi_iconst (pc' := 9) (v := 1) kc_12_8 rfl rfl ?_
            refine xcps2 (α := Int32) ((v41 : Int32) + 1) (fun v42 ev42 => ?_)
            have rv42 := xc_rng v42
            refine xi_iadd (pc' := 10) (v := v42) kc_12_9 rfl ev42 ?_
            refine xcps4 (xj_set (v := v42) hy40 ry40 2 (by first | omega | decide) (by first | omega | decide)) (fun y43 s43 hy43 ry43 => ?_)
            refine xi_iastore (pc' := 11) (x' := y43) kc_12_10 rfl A40 rfl (xi_in (by decide) (by rw [hy40]; decide)) s43 (fun hh43 eh43 => ?_)
            have K44 := xk_pa K17 (xk_wa rfl) xD_140 hy43 ry43 eh43
            refine xi_iload_n (pc' := 12) (x := (-2)) kc_12_11 rfl rfl ?_
            refine xi_ireturn kc_12_12 mr_12 rfl ?_
            show xw J ov (d + 6) 46 (39, [(0, .ref 115), (1, .int x1), (2, .int x2)], [.int (-2)], hh43) _
            refine xi_ireturn kc_46_39 mr_46 rfl ?_
            have zcm2 : ((-2) : Int32).toInt = (-2) := by decide
            exact kk (-2) hh43 K44
          · refine xi_cmf (pc' := 5) kc_11_2 rfl (xc_lt_f (X := x1.toInt) (Y := 0) rfl (by decide) (by omega)) ?_
            refine xi_iload_n (pc' := 6) (x := x1) kc_11_5 rfl rfl ?_
            refine xi_iload_n (pc' := 7) (x := 63) kc_11_6 rfl rfl ?_
            by_cases c45 : 63 < x1.toInt
            · refine xi_cmt (pc' := 14) kc_11_7 rfl (xc_gt_t (X := x1.toInt) (Y := 63) rfl (by decide) (by omega)) ?_
              refine xi_iconst (pc' := 15) (v := 0) kc_11_14 rfl rfl ?_
              refine xi_ireturn kc_11_15 mr_11 rfl ?_
              show xw J ov (d + 6) 46 (30, [(0, .ref 115), (1, .int x1), (2, .int x2)], [.int 0], hh16) _
              refine xi_iff (pc' := 33) kc_46_30 rfl rfl ?_
              refine xi_aload_n (pc' := 34) (x := 115) kc_46_33 rfl rfl ?_
              refine xi_bipush (pc' := 36) (v := (-2)) kc_46_34 rfl rfl ?_
              refine xi_virtual (mj := 12) (as := [.int (-2)]) (st1 := []) (lv0 := [(0, .ref 115), (1, .int (-2))]) kc_46_36 rfl rfl rfl rfl rfl eh15.1 (Nat.le_of_ble_eq_true rfl) (hJ _ _ _ _ (by decide)) (xm_le ml_12 rfl) rfl ?_
              refine xi_aload_n (pc' := 1) (x := 115) kc_12_0 rfl rfl ?_
              refine xi_getfield (pc' := 4) (v := .ref 140) kc_12_1 rfl rfl rfl eh15.1 rfl ?_
              refine xi_iload_n (pc' := 5) (x := (-2)) kc_12_4 rfl rfl ?_
              refine xi_ineg (pc' := 6) (v := 2) kc_12_5 rfl rfl ?_
              refine xi_dup2 (pc' := 7) kc_12_6 rfl ⟨rfl, rfl⟩ ?_
              refine xcps4 (xk_arr K17.1 xD_140) (fun y46 A46 hy46 ry46 => ?_)
              refine xcps4 (xj_get hy46 ry46 (i := 2) (by decide) (by decide)) (fun v47 ev47 bv47 dv47 => ?_)
              refine xi_iaload (pc' := 8) (v := v47) kc_12_7 rfl A46 (by decide) rfl (xi_in (by decide) (by rw [hy46]; decide)) ev47 ?_
              refine xi_iconst (pc' := 9) (v := 1) kc_12_8 rfl rfl ?_
              refine xcps2 (α := Int32) ((v47 : Int32) + 1) (fun v48 ev48 => ?_)
              have rv48 := xc_rng v48
              refine xi_iadd (pc' := 10) (v := v48) kc_12_9 rfl ev48 ?_
              refine xcps4 (xj_set (v := v48) hy46 ry46 2 (by first | omega | decide) (by first | omega | decide)) (fun y49 s49 hy49 ry49 => ?_)
              refine xi_iastore (pc' := 11) (x' := y49) kc_12_10 rfl A46 rfl (xi_in (by decide) (by rw [hy46]; decide)) s49 (fun hh49 eh49 => ?_)
              have K50 := xk_pa K17 (xk_wa rfl) xD_140 hy49 ry49 eh49
              refine xi_iload_n (pc' := 12) (x := (-2)) kc_12_11 rfl rfl ?_
              refine xi_ireturn kc_12_12 mr_12 rfl ?_
              show xw J ov (d + 6) 46 (39, [(0, .ref 115), (1, .int x1), (2, .int x2)], [.int (-2)], hh49) _
              refine xi_ireturn kc_46_39 mr_46 rfl ?_
              have zcm2 : ((-2) : Int32).toInt = (-2) := by decide
              exact kk (-2) hh49 K50
            · refine xi_cmf (pc' := 10) kc_11_7 rfl (xc_gt_f (X := x1.toInt) (Y := 63) rfl (by decide) (by omega)) ?_
              refine xi_iconst (pc' := 11) (v := 1) kc_11_10 rfl rfl ?_
              refine xi_goto (pc' := 15) kc_11_11 rfl ?_
              refine xi_ireturn kc_11_15 mr_11 rfl ?_
              show xw J ov (d + 6) 46 (30, [(0, .ref 115), (1, .int x1), (2, .int x2)], [.int 1], hh16) _
              refine xi_ift (pc' := 40) kc_46_30 rfl rfl ?_
              refine xi_aload_n (pc' := 41) (x := 115) kc_46_40 rfl rfl ?_
              refine xi_virtual (mj := 44) (as := []) (st1 := []) (lv0 := [(0, .ref 115)]) kc_46_41 rfl rfl rfl rfl rfl eh15.1 (Nat.le_of_ble_eq_true rfl) (hJ _ _ _ _ (by decide)) (xm_le ml_44 rfl) rfl ?_
              refine mt_44_0 hJ hov1 hov2 (d := d + 4)  K17.1 (fun hh52 K53 => ?_)
              have K54 := xk_tr K17 K53 rfl
              refine xp_115 K54.1 (fun u55 u56 u57 u58 u59 u60 u61 u62 u63 u64 u65 u66 u67 bu55 bu56 bu57 bu58 bu59 bu60 bu61 bu62 bu63 bu64 bu65 bu66 bu67 A68 => ?_)
              have e69 : u2 = u56 := xk_eqi (q := 1) K53 rfl eh15.1 A68 rfl rfl
              subst e69
              have e70 : u5 = u59 := xk_eqi (q := 23) K53 rfl eh15.1 A68 rfl rfl
              subst e70
              have A71 := xk_eqa (q := 0) K53 rfl A30
              show xw J ov (d + 6) 46 (44, [(0, .ref 115), (1, .int x1), (2, .int x2)], [], hh52) _
              refine xi_aload_n (pc' := 45) (x := 115) kc_46_44 rfl rfl ?_
              refine xi_iload_n (pc' := 46) (x := x1) kc_46_45 rfl rfl ?_
              refine xi_virtual (mj := 45) (as := [.int x1]) (st1 := []) (lv0 := [(0, .ref 115), (1, .int x1)]) kc_46_46 rfl rfl rfl rfl rfl A68 (Nat.le_of_ble_eq_true rfl) (hJ _ _ _ _ (by decide)) (xm_le ml_45 rfl) rfl ?_
              refine mt_45_0 hJ hov1 hov2 (d := d) (x1 := x1) K54.1 (by first | omega | decide) (fun r72 hh73 K74 => ?_)
              have K75 := xk_tr K54 K74 rfl
              refine xp_115 K75.1 (fun u76 u77 u78 u79 u80 u81 u82 u83 u84 u85 u86 u87 u88 bu76 bu77 bu78 bu79 bu80 bu81 bu82 bu83 bu84 bu85 bu86 bu87 bu88 A89 => ?_)
              have e90 : u2 = u77 := xk_eqi (q := 1) K74 rfl A68 A89 rfl rfl
              subst e90
              have e91 : u5 = u80 := xk_eqi (q := 23) K74 rfl A68 A89 rfl rfl
              subst e91
              have A92 := xk_eqa (q := 0) K74 rfl A71
              show xw J ov (d + 6) 46 (49, [(0, .ref 115), (1, .int x1), (2, .int x2)], [.long r72], hh73) _
              refine xi_lstore_n (pc' := 50) (lv' := [(3, .long r72), (0, .ref 115), (1, .int x1), (2, .int x2)]) kc_46_49 rfl rfl (xm_lt ml_46 rfl) ?_
              refine xi_aload_n (pc' := 51) (x := 115) kc_46_50 rfl rfl ?_
              refine xi_getfield (pc' := 54) (v := .ref 142) kc_46_51 rfl rfl rfl A89 rfl ?_
              refine xi_iload_n (pc' := 55) (x := x2) kc_46_54 rfl rfl ?_
              refine xcps4 (xk_arr K75.1 xD_142) (fun y93 A93 hy93 ry93 => ?_)
              refine xcps4 (xj_get hy93 ry93 (i := x2) (by omega) (by omega)) (fun v94 ev94 bv94 dv94 => ?_)
              refine xi_iaload (pc' := 56) (v := v94) kc_46_55 rfl A93 (by decide) rfl (xi_in (by omega) (by rw [hy93]; omega)) ev94 ?_
              refine xi_ireturn kc_46_56 mr_46 rfl ?_
              exact kk v94 hh73 K75
        · refine xi_cmf (pc' := 10) kc_42_7 rfl (xc_ge_f (X := u5.toInt) (Y := 6) rfl (by decide) (by omega)) ?_
          refine xi_aload_n (pc' := 11) (x := 115) kc_42_10 rfl rfl ?_
          refine xi_getfield (pc' := 14) (v := .int u5) kc_42_11 rfl rfl rfl eh15.1 rfl ?_
          refine xi_goto (pc' := 19) kc_42_14 rfl ?_
          refine xcps2 (α := Int32) ((1 : Int32) <<< (u5 &&& 31)) (fun v95 ev95 => ?_)
          have rv95 := xc_rng v95
          have bv95 : 1 ≤ v95.toInt ∧ v95.toInt ≤ 64 := by rw [← ev95]; exact xj_shl6 (by omega) (by omega)
          refine xi_ishl (pc' := 20) (v := v95) kc_42_19 rfl ev95 ?_
          refine xi_ireturn kc_42_20 mr_42 rfl ?_
          show xw J ov (d + 6) 46 (25, [(0, .ref 115), (1, .int x1), (2, .int x2)], [.int v95, .int 0, .int x1], hh16) _
          refine xi_iconst (pc' := 26) (v := 1) kc_46_25 rfl rfl ?_
          refine xcps2 (α := Int32) (v95 - 1) (fun v96 ev96 => ?_)
          have zv96 : v96.toInt = (v95.toInt + (-1)) := by rw [← ev96]; exact (xz_sub (X := v95.toInt) (Y := 1) rfl (by decide) (by omega) (by omega)).trans (by omega)
          refine xi_isub (pc' := 27) (v := v96) kc_46_26 rfl ev96 ?_
          refine xi_static (mj := 11) (as := [.int x1, .int 0, .int v96]) (st1 := []) (lv0 := [(0, .int x1), (1, .int 0), (2, .int v96)]) kc_46_27 rfl rfl (Nat.le_of_ble_eq_true rfl) rfl rfl (Nat.le_of_ble_eq_true rfl) (hJ _ _ _ _ (by decide)) (xm_le ml_11 rfl) rfl ?_
          refine xi_iload_n (pc' := 1) (x := x1) kc_11_0 rfl rfl ?_
          refine xi_iload_n (pc' := 2) (x := 0) kc_11_1 rfl rfl ?_
          by_cases c97 : x1.toInt < 0
          · refine xi_cmt (pc' := 14) kc_11_2 rfl (xc_lt_t (X := x1.toInt) (Y := 0) rfl (by decide) (by omega)) ?_
            refine xi_iconst (pc' := 15) (v := 0) kc_11_14 rfl rfl ?_
            refine xi_ireturn kc_11_15 mr_11 rfl ?_
            show xw J ov (d + 6) 46 (30, [(0, .ref 115), (1, .int x1), (2, .int x2)], [.int 0], hh16) _
            refine xi_iff (pc' := 33) kc_46_30 rfl rfl ?_
            refine xi_aload_n (pc' := 34) (x := 115) kc_46_33 rfl rfl ?_
            refine xi_bipush (pc' := 36) (v := (-2)) kc_46_34 rfl rfl ?_
            refine xi_virtual (mj := 12) (as := [.int (-2)]) (st1 := []) (lv0 := [(0, .ref 115), (1, .int (-2))]) kc_46_36 rfl rfl rfl rfl rfl eh15.1 (Nat.le_of_ble_eq_true rfl) (hJ _ _ _ _ (by decide)) (xm_le ml_12 rfl) rfl ?_
            refine xi_aload_n (pc' := 1) (x := 115) kc_12_0 rfl rfl ?_
            refine xi_getfield (pc' := 4) (v := .ref 140) kc_12_1 rfl rfl rfl eh15.1 rfl ?_
            refine xi_iload_n (pc' := 5) (x := (-2)) kc_12_4 rfl rfl ?_
            refine xi_ineg (pc' := 6) (v := 2) kc_12_5 rfl rfl ?_
            refine xi_dup2 (pc' := 7) kc_12_6 rfl ⟨rfl, rfl⟩ ?_
            refine xcps4 (xk_arr K17.1 xD_140) (fun y98 A98 hy98 ry98 => ?_)
            refine xcps4 (xj_get hy98 ry98 (i := 2) (by decide) (by decide)) (fun v99 ev99 bv99 dv99 => ?_)
            refine xi_iaload (pc' := 8) (v := v99) kc_12_7 rfl A98 (by decide) rfl (xi_in (by decide) (by rw [hy98]; decide)) ev99 ?_
            refine xi_iconst (pc' := 9) (v := 1) kc_12_8 rfl rfl ?_
            refine xcps2 (α := Int32) ((v99 : Int32) + 1) (fun v100 ev100 => ?_)
            have rv100 := xc_rng v100
            refine xi_iadd (pc' := 10) (v := v100) kc_12_9 rfl ev100 ?_
            refine xcps4 (xj_set (v := v100) hy98 ry98 2 (by first | omega | decide) (by first | omega | decide)) (fun y101 s101 hy101 ry101 => ?_)
            refine xi_iastore (pc' := 11) (x' := y101) kc_12_10 rfl A98 rfl (xi_in (by decide) (by rw [hy98]; decide)) s101 (fun hh101 eh101 => ?_)
            have K102 := xk_pa K17 (xk_wa rfl) xD_140 hy101 ry101 eh101
            refine xi_iload_n (pc' := 12) (x := (-2)) kc_12_11 rfl rfl ?_
            refine xi_ireturn kc_12_12 mr_12 rfl ?_
            show xw J ov (d + 6) 46 (39, [(0, .ref 115), (1, .int x1), (2, .int x2)], [.int (-2)], hh101) _
            refine xi_ireturn kc_46_39 mr_46 rfl ?_
            have zcm2 : ((-2) : Int32).toInt = (-2) := by decide
            exact kk (-2) hh101 K102
          · refine xi_cmf (pc' := 5) kc_11_2 rfl (xc_lt_f (X := x1.toInt) (Y := 0) rfl (by decide) (by omega)) ?_
            refine xi_iload_n (pc' := 6) (x := x1) kc_11_5 rfl rfl ?_
            refine xi_iload_n (pc' := 7) (x := v96) kc_11_6 rfl rfl ?_
            by_cases c103 : (v95.toInt + (-1)) < x1.toInt
            · refine xi_cmt (pc' := 14) kc_11_7 rfl (xc_gt_t (X := x1.toInt) (Y := (v95.toInt + (-1))) rfl zv96 (by omega)) ?_
              refine xi_iconst (pc' := 15) (v := 0) kc_11_14 rfl rfl ?_
              refine xi_ireturn kc_11_15 mr_11 rfl ?_
              show xw J ov (d + 6) 46 (30, [(0, .ref 115), (1, .int x1), (2, .int x2)], [.int 0], hh16) _
              refine xi_iff (pc' := 33) kc_46_30 rfl rfl ?_
              refine xi_aload_n (pc' := 34) (x := 115) kc_46_33 rfl rfl ?_
              refine xi_bipush (pc' := 36) (v := (-2)) kc_46_34 rfl rfl ?_
              refine xi_virtual (mj := 12) (as := [.int (-2)]) (st1 := []) (lv0 := [(0, .ref 115), (1, .int (-2))]) kc_46_36 rfl rfl rfl rfl rfl eh15.1 (Nat.le_of_ble_eq_true rfl) (hJ _ _ _ _ (by decide)) (xm_le ml_12 rfl) rfl ?_
              refine xi_aload_n (pc' := 1) (x := 115) kc_12_0 rfl rfl ?_
              refine xi_getfield (pc' := 4) (v := .ref 140) kc_12_1 rfl rfl rfl eh15.1 rfl ?_
              refine xi_iload_n (pc' := 5) (x := (-2)) kc_12_4 rfl rfl ?_
              refine xi_ineg (pc' := 6) (v := 2) kc_12_5 rfl rfl ?_
              refine xi_dup2 (pc' := 7) kc_12_6 rfl ⟨rfl, rfl⟩ ?_
              refine xcps4 (xk_arr K17.1 xD_140) (fun y104 A104 hy104 ry104 => ?_)
              refine xcps4 (xj_get hy104 ry104 (i := 2) (by decide) (by decide)) (fun v105 ev105 bv105 dv105 => ?_)
              refine xi_iaload (pc' := 8) (v := v105) kc_12_7 rfl A104 (by decide) rfl (xi_in (by decide) (by rw [hy104]; decide)) ev105 ?_
              refine xi_iconst (pc' := 9) (v := 1) kc_12_8 rfl rfl ?_
              refine xcps2 (α := Int32) ((v105 : Int32) + 1) (fun v106 ev106 => ?_)
              have rv106 := xc_rng v106
              refine xi_iadd (pc' := 10) (v := v106) kc_12_9 rfl ev106 ?_
              refine xcps4 (xj_set (v := v106) hy104 ry104 2 (by first | omega | decide) (by first | omega | decide)) (fun y107 s107 hy107 ry107 => ?_)
              refine xi_iastore (pc' := 11) (x' := y107) kc_12_10 rfl A104 rfl (xi_in (by decide) (by rw [hy104]; decide)) s107 (fun hh107 eh107 => ?_)
              have K108 := xk_pa K17 (xk_wa rfl) xD_140 hy107 ry107 eh107
              refine xi_iload_n (pc' := 12) (x := (-2)) kc_12_11 rfl rfl ?_
              refine xi_ireturn kc_12_12 mr_12 rfl ?_
              show xw J ov (d + 6) 46 (39, [(0, .ref 115), (1, .int x1), (2, .int x2)], [.int (-2)], hh107) _
              refine xi_ireturn kc_46_39 mr_46 rfl ?_
              have zcm2 : ((-2) : Int32).toInt = (-2) := by decide
              exact kk (-2) hh107 K108
            · refine xi_cmf (pc' := 10) kc_11_7 rfl (xc_gt_f (X := x1.toInt) (Y := (v95.toInt + (-1))) rfl zv96 (by omega)) ?_
              refine xi_iconst (pc' := 11) (v := 1) kc_11_10 rfl rfl ?_
              refine xi_goto (pc' := 15) kc_11_11 rfl ?_
              refine xi_ireturn kc_11_15 mr_11 rfl ?_
              show xw J ov (d + 6) 46 (30, [(0, .ref 115), (1, .int x1), (2, .int x2)], [.int 1], hh16) _
              refine xi_ift (pc' := 40) kc_46_30 rfl rfl ?_
              refine xi_aload_n (pc' := 41) (x := 115) kc_46_40 rfl rfl ?_
              refine xi_virtual (mj := 44) (as := []) (st1 := []) (lv0 := [(0, .ref 115)]) kc_46_41 rfl rfl rfl rfl rfl eh15.1 (Nat.le_of_ble_eq_true rfl) (hJ _ _ _ _ (by decide)) (xm_le ml_44 rfl) rfl ?_
              refine mt_44_0 hJ hov1 hov2 (d := d + 4)  K17.1 (fun hh110 K111 => ?_)
              have K112 := xk_tr K17 K111 rfl
              refine xp_115 K112.1 (fun u113 u114 u115 u116 u117 u118 u119 u120 u121 u122 u123 u124 u125 bu113 bu114 bu115 bu116 bu117 bu118 bu119 bu120 bu121 bu122 bu123 bu124 bu125 A126 => ?_)
              have e127 : u2 = u114 := xk_eqi (q := 1) K111 rfl eh15.1 A126 rfl rfl
              subst e127
              have e128 : u5 = u117 := xk_eqi (q := 23) K111 rfl eh15.1 A126 rfl rfl
              subst e128
              have A129 := xk_eqa (q := 0) K111 rfl A30
              show xw J ov (d + 6) 46 (44, [(0, .ref 115), (1, .int x1), (2, .int x2)], [], hh110) _
              refine xi_aload_n (pc' := 45) (x := 115) kc_46_44 rfl rfl ?_
              refine xi_iload_n (pc' := 46) (x := x1) kc_46_45 rfl rfl ?_
              refine xi_virtual (mj := 45) (as := [.int x1]) (st1 := []) (lv0 := [(0, .ref 115), (1, .int x1)]) kc_46_46 rfl rfl rfl rfl rfl A126 (Nat.le_of_ble_eq_true rfl) (hJ _ _ _ _ (by decide)) (xm_le ml_45 rfl) rfl ?_
              refine mt_45_0 hJ hov1 hov2 (d := d) (x1 := x1) K112.1 (by first | omega | decide) (fun r130 hh131 K132 => ?_)
              have K133 := xk_tr K112 K132 rfl
              refine xp_115 K133.1 (fun u134 u135 u136 u137 u138 u139 u140 u141 u142 u143 u144 u145 u146 bu134 bu135 bu136 bu137 bu138 bu139 bu140 bu141 bu142 bu143 bu144 bu145 bu146 A147 => ?_)
              have e148 : u2 = u135 := xk_eqi (q := 1) K132 rfl A126 A147 rfl rfl
              subst e148
              have e149 : u5 = u138 := xk_eqi (q := 23) K132 rfl A126 A147 rfl rfl
              subst e149
              have A150 := xk_eqa (q := 0) K132 rfl A129
              show xw J ov (d + 6) 46 (49, [(0, .ref 115), (1, .int x1), (2, .int x2)], [.long r130], hh131) _
              refine xi_lstore_n (pc' := 50) (lv' := [(3, .long r130), (0, .ref 115), (1, .int x1), (2, .int x2)]) kc_46_49 rfl rfl (xm_lt ml_46 rfl) ?_
              refine xi_aload_n (pc' := 51) (x := 115) kc_46_50 rfl rfl ?_
              refine xi_getfield (pc' := 54) (v := .ref 142) kc_46_51 rfl rfl rfl A147 rfl ?_
              refine xi_iload_n (pc' := 55) (x := x2) kc_46_54 rfl rfl ?_
              refine xcps4 (xk_arr K133.1 xD_142) (fun y151 A151 hy151 ry151 => ?_)
              refine xcps4 (xj_get hy151 ry151 (i := x2) (by omega) (by omega)) (fun v152 ev152 bv152 dv152 => ?_)
              refine xi_iaload (pc' := 56) (v := v152) kc_46_55 rfl A151 (by decide) rfl (xi_in (by omega) (by rw [hy151]; omega)) ev152 ?_
              refine xi_ireturn kc_46_56 mr_46 rfl ?_
              exact kk v152 hh131 K133
