set_option maxHeartbeats 4000000 in
theorem lp_37_0 {J : xe_J} {ov : List (List Int32)} (hJ : ∀ d mj as h, mj ≠ xe_loff → J d mj as h = none) (hov1 : ov[1]? = some [10, 0, 0, 0, 0, 0]) (hov2 : ov[2]? = some [99, 30, 50, 50, 1, 99999]) {d : Nat} {Q : Option Value → xe_H → Prop} {hb : xe_H} (kk : (∀ h' : xe_H, xk [(0, 9), (115, 1), (83, 0), (6, 0), (123, 0), (9, 0), (124, 0), (7, 0), (10, 0), (5, 0), (8, 0)] hb h' → Q none h')) : ∀ m : Nat, (∀ (x1 : Int32) (x2 : Int32) (x3 : Int32) (x4 : Int32) (x5 : Int32) (x6 : Int32) (h : xe_H), (0 ≤ x1.toInt ∧ x1.toInt ≤ 5) → (0 ≤ x2.toInt ∧ x2.toInt ≤ 63) → (0 ≤ x3.toInt ∧ x3.toInt ≤ 1) → (0 ≤ x4.toInt ∧ x4.toInt ≤ 599) → (0 ≤ x6.toInt ∧ x6.toInt ≤ 10) → xk [(0, 9), (115, 1), (83, 0), (6, 0), (123, 0), (9, 0), (124, 0), (7, 0), (10, 0), (5, 0), (8, 0)] hb h → (-1) * x6.toInt + 10 < (m : Int) → xw J ov (d + 3) 37 (27, [(0, .ref 115), (1, .int x1), (2, .int x2), (3, .int x3), (4, .int x4), (5, .int x5), (6, .int x6)], [], h) Q) := by
  intro m
  induction m with
  | zero =>
    intro x1 x2 x3 x4 x5 x6 h b1 b2 b3 b4 b6 K hm; have rx5 := xc_rng x5; exfalso; omega
  | succ m ih =>
    have i0 := ih
    intro x1 x2 x3 x4 x5 x6 h b1 b2 b3 b4 b6 K hm
    have rx5 := xc_rng x5
    refine xi_iload (pc' := 29) (x := x6) kc_37_27 rfl rfl ?_
    refine xi_aload_n (pc' := 30) (x := 115) kc_37_29 rfl rfl ?_
    obtain ⟨u1, u2, u3, u4, u5, u6, u7, u8, u9, u10, u11, u12, u13, bu1, bu2, bu3, bu4, bu5, bu6, bu7, bu8, bu9, bu10, bu11, bu12, bu13, A14⟩ := xq_115 K.1
    refine xi_getfield (pc' := 33) (v := .int u5) kc_37_30 rfl rfl rfl A14 rfl ?_
    by_cases c15 : u5.toInt ≤ x6.toInt
    · refine xi_cmt (pc' := 93) kc_37_33 rfl (xc_ge_t (X := x6.toInt) (Y := u5.toInt) rfl rfl (by omega)) ?_
      refine xi_iload (pc' := 95) (x := x5) kc_37_93 rfl rfl ?_
      refine xi_static (mj := 39) (as := [.int x5]) (st1 := []) (lv0 := [(0, .int x5)]) kc_37_95 rfl rfl (Nat.le_of_ble_eq_true rfl) rfl rfl (Nat.le_of_ble_eq_true rfl) (hJ _ _ _ _ (by decide)) (xm_le ml_39 rfl) rfl ?_
      refine mt_39_0 hJ hov1 hov2 (d := d + 1) (x0 := x5) K.1 (fun r16 hh17 br16 K18 => ?_)
      have K19 := xk_tr K K18 rfl
      obtain ⟨u20, u21, u22, u23, u24, u25, u26, u27, u28, u29, u30, u31, u32, bu20, bu21, bu22, bu23, bu24, bu25, bu26, bu27, bu28, bu29, bu30, bu31, bu32, A33⟩ := xq_115 K19.1
      have e34 : u2 = u21 := xk_eqi (q := 1) K18 rfl A14 A33 rfl rfl
      subst e34
      show xw J ov (d + 3) 37 (98, [(0, .ref 115), (1, .int x1), (2, .int x2), (3, .int x3), (4, .int x4), (5, .int x5), (6, .int x6)], [.int r16], hh17) _
      refine xi_istore (pc' := 100) (lv' := [(5, .int r16), (0, .ref 115), (1, .int x1), (2, .int x2), (3, .int x3), (4, .int x4), (6, .int x6)]) kc_37_98 rfl rfl (xm_lt ml_37 rfl) ?_
      refine xi_aload_n (pc' := 101) (x := 115) kc_37_100 rfl rfl ?_
      refine xi_getfield (pc' := 104) (v := .ref 116) kc_37_101 rfl rfl rfl A33 rfl ?_
      refine xi_iload_n (pc' := 105) (x := x1) kc_37_104 rfl rfl ?_
      obtain ⟨y35, A35, hy35, ry35⟩ := xk_arr K19.1 xD_116
      obtain ⟨v36, ev36, bv36, dv36⟩ := xj_get hy35 ry35 (i := x1) (by omega) (by omega)
      refine xi_iaload (pc' := 106) (v := v36) kc_37_105 rfl A35 (by decide) rfl (xi_in (by omega) (by rw [hy35]; omega)) ev36 ?_
      refine xi_aload_n (pc' := 107) (x := 115) kc_37_106 rfl rfl ?_
      refine xi_getfield (pc' := 110) (v := .int u25) kc_37_107 rfl rfl rfl A33 rfl ?_
      refine xi_static (mj := 22) (as := [.int u25]) (st1 := [.int v36]) (lv0 := [(0, .int u25)]) kc_37_110 rfl rfl (Nat.le_of_ble_eq_true rfl) rfl rfl (Nat.le_of_ble_eq_true rfl) (hJ _ _ _ _ (by decide)) (xm_le ml_22 rfl) rfl ?_
      refine mt_22_0 hJ hov1 hov2 (d := d + 1) (x0 := u25) K19.1 (fun r37 hh38 br37 K39 => ?_)
      have K40 := xk_tr K19 K39 rfl
      obtain ⟨u41, u42, u43, u44, u45, u46, u47, u48, u49, u50, u51, u52, u53, bu41, bu42, bu43, bu44, bu45, bu46, bu47, bu48, bu49, bu50, bu51, bu52, bu53, A54⟩ := xq_115 K40.1
      have e55 : u2 = u42 := xk_eqi (q := 1) K39 rfl A33 A54 rfl rfl
      subst e55
      show xw J ov (d + 3) 37 (113, [(5, .int r16), (0, .ref 115), (1, .int x1), (2, .int x2), (3, .int x3), (4, .int x4), (6, .int x6)], [.int r37, .int v36], hh38) _
      obtain ⟨v56, ev56⟩ : ∃ q : Int32, (v36 : Int32) * r37 = q := ⟨_, rfl⟩
      have rv56 := xc_rng v56
      refine xi_imul (pc' := 114) (v := v56) kc_37_113 rfl ev56 ?_
      refine xi_iconst (pc' := 115) (v := 2) kc_37_114 rfl rfl ?_
      obtain ⟨v57, ev57⟩ : ∃ q : Int32, v56 / 2 = q := ⟨_, rfl⟩
      have dv57 : 2 * v57.toInt ≤ v56.toInt + 1 ∧ v56.toInt ≤ 2 * v57.toInt + 1 := by rw [← ev57]; exact xz_div (X := v56.toInt) (Y := 2) rfl (by decide) (by decide)
      have bv57 : -1073741825 ≤ v57.toInt ∧ v57.toInt ≤ 1073741824 := by omega
      refine xi_idiv (pc' := 116) (v := v57) kc_37_115 rfl ev57 (by decide) ?_
      refine xi_istore (pc' := 118) (lv' := [(6, .int v57), (5, .int r16), (0, .ref 115), (1, .int x1), (2, .int x2), (3, .int x3), (4, .int x4)]) kc_37_116 rfl rfl (xm_lt ml_37 rfl) ?_
      refine xi_iload (pc' := 120) (x := r16) kc_37_118 rfl rfl ?_
      refine xi_iload (pc' := 122) (x := r16) kc_37_120 rfl rfl ?_
      refine xi_iload (pc' := 124) (x := v57) kc_37_122 rfl rfl ?_
      obtain ⟨v58, ev58⟩ : ∃ q : Int32, r16 - v57 = q := ⟨_, rfl⟩
      have zv58 : v58.toInt = (r16.toInt + (-1) * v57.toInt) := by rw [← ev58]; exact (xz_sub (X := r16.toInt) (Y := v57.toInt) rfl rfl (by omega) (by omega)).trans (by omega)
      refine xi_isub (pc' := 125) (v := v58) kc_37_124 rfl ev58 ?_
      refine xi_aload_n (pc' := 126) (x := 115) kc_37_125 rfl rfl ?_
      refine xi_getfield (pc' := 129) (v := .ref 118) kc_37_126 rfl rfl rfl A54 rfl ?_
      refine xi_iload_n (pc' := 130) (x := x1) kc_37_129 rfl rfl ?_
      obtain ⟨y59, A59, hy59, ry59⟩ := xk_arr K40.1 xD_118
      obtain ⟨v60, ev60, bv60, dv60⟩ := xj_get hy59 ry59 (i := x1) (by omega) (by omega)
      refine xi_iaload (pc' := 131) (v := v60) kc_37_130 rfl A59 (by decide) rfl (xi_in (by omega) (by rw [hy59]; omega)) ev60 ?_
      refine xi_aload_n (pc' := 132) (x := 115) kc_37_131 rfl rfl ?_
      refine xi_getfield (pc' := 135) (v := .ref 120) kc_37_132 rfl rfl rfl A54 rfl ?_
      refine xi_iload_n (pc' := 136) (x := x1) kc_37_135 rfl rfl ?_
      obtain ⟨y61, A61, hy61, ry61⟩ := xk_arr K40.1 xD_120
      obtain ⟨v62, ev62, bv62, dv62⟩ := xj_get hy61 ry61 (i := x1) (by omega) (by omega)
      refine xi_iaload (pc' := 137) (v := v62) kc_37_136 rfl A61 (by decide) rfl (xi_in (by omega) (by rw [hy61]; omega)) ev62 ?_
      refine xi_iconst (pc' := 138) (v := 1) kc_37_137 rfl rfl ?_
      by_cases c63 : v62.toInt = 1
      · refine xi_cmf (pc' := 141) kc_37_138 rfl (xc_ne_f (X := v62.toInt) (Y := 1) rfl (by decide) (by omega)) ?_
        refine xi_aload_n (pc' := 142) (x := 115) kc_37_141 rfl rfl ?_
        refine xi_getfield (pc' := 145) (v := .ref 119) kc_37_142 rfl rfl rfl A54 rfl ?_
        refine xi_iload_n (pc' := 146) (x := x1) kc_37_145 rfl rfl ?_
        obtain ⟨y64, A64, hy64, ry64⟩ := xk_arr K40.1 xD_119
        obtain ⟨v65, ev65, bv65, dv65⟩ := xj_get hy64 ry64 (i := x1) (by omega) (by omega)
        refine xi_iaload (pc' := 147) (v := v65) kc_37_146 rfl A64 (by decide) rfl (xi_in (by omega) (by rw [hy64]; omega)) ev65 ?_
        refine xi_goto (pc' := 151) kc_37_147 rfl ?_
        obtain ⟨v66, ev66⟩ : ∃ q : Int32, (v60 : Int32) + v65 = q := ⟨_, rfl⟩
        have rv66 := xc_rng v66
        refine xi_iadd (pc' := 152) (v := v66) kc_37_151 rfl ev66 ?_
        obtain ⟨v67, ev67⟩ : ∃ q : Int32, (v58 : Int32) * v66 = q := ⟨_, rfl⟩
        have rv67 := xc_rng v67
        refine xi_imul (pc' := 153) (v := v67) kc_37_152 rfl ev67 ?_
        refine xi_bipush (pc' := 155) (v := 100) kc_37_153 rfl rfl ?_
        obtain ⟨v68, ev68⟩ : ∃ q : Int32, v67 / 100 = q := ⟨_, rfl⟩
        have dv68 : 100 * v68.toInt ≤ v67.toInt + 99 ∧ v67.toInt ≤ 100 * v68.toInt + 99 := by rw [← ev68]; exact xz_div (X := v67.toInt) (Y := 100) rfl (by decide) (by decide)
        have bv68 : -21474837 ≤ v68.toInt ∧ v68.toInt ≤ 21474837 := by omega
        refine xi_idiv (pc' := 156) (v := v68) kc_37_155 rfl ev68 (by decide) ?_
        obtain ⟨v69, ev69⟩ : ∃ q : Int32, r16 - v68 = q := ⟨_, rfl⟩
        have zv69 : v69.toInt = (r16.toInt + (-1) * v68.toInt) := by rw [← ev69]; exact (xz_sub (X := r16.toInt) (Y := v68.toInt) rfl rfl (by omega) (by omega)).trans (by omega)
        refine xi_isub (pc' := 157) (v := v69) kc_37_156 rfl ev69 ?_
        refine xi_static (mj := 39) (as := [.int v69]) (st1 := []) (lv0 := [(0, .int v69)]) kc_37_157 rfl rfl (Nat.le_of_ble_eq_true rfl) rfl rfl (Nat.le_of_ble_eq_true rfl) (hJ _ _ _ _ (by decide)) (xm_le ml_39 rfl) rfl ?_
        refine mt_39_0 hJ hov1 hov2 (d := d + 1) (x0 := v69) K40.1 (fun r70 hh71 br70 K72 => ?_)
        have K73 := xk_tr K40 K72 rfl
        obtain ⟨u74, u75, u76, u77, u78, u79, u80, u81, u82, u83, u84, u85, u86, bu74, bu75, bu76, bu77, bu78, bu79, bu80, bu81, bu82, bu83, bu84, bu85, bu86, A87⟩ := xq_115 K73.1
        have e88 : u2 = u75 := xk_eqi (q := 1) K72 rfl A54 A87 rfl rfl
        subst e88
        show xw J ov (d + 3) 37 (160, [(6, .int v57), (5, .int r16), (0, .ref 115), (1, .int x1), (2, .int x2), (3, .int x3), (4, .int x4)], [.int r70], hh71) _
        refine xi_istore (pc' := 162) (lv' := [(5, .int r70), (6, .int v57), (0, .ref 115), (1, .int x1), (2, .int x2), (3, .int x3), (4, .int x4)]) kc_37_160 rfl rfl (xm_lt ml_37 rfl) ?_
        refine xi_aload_n (pc' := 163) (x := 115) kc_37_162 rfl rfl ?_
        refine xi_getfield (pc' := 166) (v := .ref 116) kc_37_163 rfl rfl rfl A87 rfl ?_
        refine xi_iload_n (pc' := 167) (x := x1) kc_37_166 rfl rfl ?_
        obtain ⟨y89, A89, hy89, ry89⟩ := xk_arr K73.1 xD_116
        obtain ⟨v90, ev90, bv90, dv90⟩ := xj_get hy89 ry89 (i := x1) (by omega) (by omega)
        refine xi_iaload (pc' := 168) (v := v90) kc_37_167 rfl A89 (by decide) rfl (xi_in (by omega) (by rw [hy89]; omega)) ev90 ?_
        refine xi_aload_n (pc' := 169) (x := 115) kc_37_168 rfl rfl ?_
        refine xi_getfield (pc' := 172) (v := .ref 117) kc_37_169 rfl rfl rfl A87 rfl ?_
        refine xi_iload_n (pc' := 173) (x := x1) kc_37_172 rfl rfl ?_
        obtain ⟨y91, A91, hy91, ry91⟩ := xk_arr K73.1 xD_117
        obtain ⟨v92, ev92, bv92, dv92⟩ := xj_get hy91 ry91 (i := x1) (by omega) (by omega)
        refine xi_iaload (pc' := 174) (v := v92) kc_37_173 rfl A91 (by decide) rfl (xi_in (by omega) (by rw [hy91]; omega)) ev92 ?_
        refine xi_static (mj := 22) (as := [.int v92]) (st1 := [.int v90]) (lv0 := [(0, .int v92)]) kc_37_174 rfl rfl (Nat.le_of_ble_eq_true rfl) rfl rfl (Nat.le_of_ble_eq_true rfl) (hJ _ _ _ _ (by decide)) (xm_le ml_22 rfl) rfl ?_
        refine mt_22_0 hJ hov1 hov2 (d := d + 1) (x0 := v92) K73.1 (fun r93 hh94 br93 K95 => ?_)
        have K96 := xk_tr K73 K95 rfl
        obtain ⟨u97, u98, u99, u100, u101, u102, u103, u104, u105, u106, u107, u108, u109, bu97, bu98, bu99, bu100, bu101, bu102, bu103, bu104, bu105, bu106, bu107, bu108, bu109, A110⟩ := xq_115 K96.1
        have e111 : u2 = u98 := xk_eqi (q := 1) K95 rfl A87 A110 rfl rfl
        subst e111
        show xw J ov (d + 3) 37 (177, [(5, .int r70), (6, .int v57), (0, .ref 115), (1, .int x1), (2, .int x2), (3, .int x3), (4, .int x4)], [.int r93, .int v90], hh94) _
        obtain ⟨v112, ev112⟩ : ∃ q : Int32, (v90 : Int32) * r93 = q := ⟨_, rfl⟩
        have rv112 := xc_rng v112
        refine xi_imul (pc' := 178) (v := v112) kc_37_177 rfl ev112 ?_
        refine xi_istore (pc' := 180) (lv' := [(7, .int v112), (5, .int r70), (6, .int v57), (0, .ref 115), (1, .int x1), (2, .int x2), (3, .int x3), (4, .int x4)]) kc_37_178 rfl rfl (xm_lt ml_37 rfl) ?_
        refine xi_iload (pc' := 182) (x := r70) kc_37_180 rfl rfl ?_
        refine xi_iload (pc' := 184) (x := v112) kc_37_182 rfl rfl ?_
        by_cases c113 : r70.toInt ≤ v112.toInt
        · refine xi_cmt (pc' := 195) kc_37_184 rfl (xc_le_t (X := r70.toInt) (Y := v112.toInt) rfl rfl (by omega)) ?_
          refine xi_iconst (pc' := 196) (v := 0) kc_37_195 rfl rfl ?_
          refine xi_istore (pc' := 198) (lv' := [(8, .int 0), (7, .int v112), (5, .int r70), (6, .int v57), (0, .ref 115), (1, .int x1), (2, .int x2), (3, .int x3), (4, .int x4)]) kc_37_196 rfl rfl (xm_lt ml_37 rfl) ?_
          refine xi_aload_n (pc' := 199) (x := 115) kc_37_198 rfl rfl ?_
          refine xi_getfield (pc' := 202) (v := .ref 141) kc_37_199 rfl rfl rfl A110 rfl ?_
          refine xi_iload_n (pc' := 203) (x := x1) kc_37_202 rfl rfl ?_
          refine xi_iload (pc' := 205) (x := r70) kc_37_203 rfl rfl ?_
          refine xi_iload (pc' := 207) (x := 0) kc_37_205 rfl rfl ?_
          obtain ⟨v114, ev114⟩ : ∃ q : Int32, r70 - 0 = q := ⟨_, rfl⟩
          have zv114 : v114.toInt = r70.toInt := by rw [← ev114]; exact (xz_sub (X := r70.toInt) (Y := 0) rfl (by decide) (by omega) (by omega)).trans (by omega)
          refine xi_isub (pc' := 208) (v := v114) kc_37_207 rfl ev114 ?_
          obtain ⟨y115, A115, hy115, ry115⟩ := xk_arr K96.1 xD_141
          obtain ⟨y116, s116, hy116, ry116⟩ := xj_set (v := v114) hy115 ry115 x1 (by first | omega | decide) (by first | omega | decide)
          refine xi_iastore (pc' := 209) (x' := y116) kc_37_208 rfl A115 rfl (xi_in (by omega) (by rw [hy115]; omega)) s116 (fun hh116 eh116 => ?_)
          have K117 := xk_pa K96 (xk_wa rfl) xD_141 hy116 ry116 eh116
          refine xi_iload (pc' := 211) (x := 0) kc_37_209 rfl rfl ?_
          refine xi_ift (pc' := 221) kc_37_211 rfl rfl ?_
          refine xi_return kc_37_221 mr_37 ?_
          exact kk hh116 K117
        · refine xi_cmf (pc' := 187) kc_37_184 rfl (xc_le_f (X := r70.toInt) (Y := v112.toInt) rfl rfl (by omega)) ?_
          refine xi_iload (pc' := 189) (x := r70) kc_37_187 rfl rfl ?_
          refine xi_iload (pc' := 191) (x := v112) kc_37_189 rfl rfl ?_
          obtain ⟨v118, ev118⟩ : ∃ q : Int32, (r70 : Int32) - v112 = q := ⟨_, rfl⟩
          have rv118 := xc_rng v118
          refine xi_isub (pc' := 192) (v := v118) kc_37_191 rfl ev118 ?_
          refine xi_goto (pc' := 196) kc_37_192 rfl ?_
          refine xi_istore (pc' := 198) (lv' := [(8, .int v118), (7, .int v112), (5, .int r70), (6, .int v57), (0, .ref 115), (1, .int x1), (2, .int x2), (3, .int x3), (4, .int x4)]) kc_37_196 rfl rfl (xm_lt ml_37 rfl) ?_
          refine xi_aload_n (pc' := 199) (x := 115) kc_37_198 rfl rfl ?_
          refine xi_getfield (pc' := 202) (v := .ref 141) kc_37_199 rfl rfl rfl A110 rfl ?_
          refine xi_iload_n (pc' := 203) (x := x1) kc_37_202 rfl rfl ?_
          refine xi_iload (pc' := 205) (x := r70) kc_37_203 rfl rfl ?_
          refine xi_iload (pc' := 207) (x := v118) kc_37_205 rfl rfl ?_
          obtain ⟨v119, ev119⟩ : ∃ q : Int32, (r70 : Int32) - v118 = q := ⟨_, rfl⟩
          have rv119 := xc_rng v119
          refine xi_isub (pc' := 208) (v := v119) kc_37_207 rfl ev119 ?_
          obtain ⟨y120, A120, hy120, ry120⟩ := xk_arr K96.1 xD_141
          obtain ⟨y121, s121, hy121, ry121⟩ := xj_set (v := v119) hy120 ry120 x1 (by first | omega | decide) (by first | omega | decide)
          refine xi_iastore (pc' := 209) (x' := y121) kc_37_208 rfl A120 rfl (xi_in (by omega) (by rw [hy120]; omega)) s121 (fun hh121 eh121 => ?_)
          have K122 := xk_pa K96 (xk_wa rfl) xD_141 hy121 ry121 eh121
          refine xi_iload (pc' := 211) (x := v118) kc_37_209 rfl rfl ?_
          by_cases c123 : v118.toInt ≤ 0
          · refine xi_ift (pc' := 221) kc_37_211 rfl (xc_le_t (X := v118.toInt) (Y := 0) rfl (by decide) (by omega)) ?_
            refine xi_return kc_37_221 mr_37 ?_
            exact kk hh121 K122
          · refine xi_iff (pc' := 214) kc_37_211 rfl (xc_le_f (X := v118.toInt) (Y := 0) rfl (by decide) (by omega)) ?_
            refine xi_aload_n (pc' := 215) (x := 115) kc_37_214 rfl rfl ?_
            refine xi_iload_n (pc' := 216) (x := x1) kc_37_215 rfl rfl ?_
            refine xi_iload (pc' := 218) (x := v118) kc_37_216 rfl rfl ?_
            have A124 := ((eh121.2.1 115 (by decide)).trans A110)
            refine xi_virtual (mj := 40) (as := [.int x1, .int v118]) (st1 := []) (lv0 := [(0, .ref 115), (1, .int x1), (2, .int v118)]) kc_37_218 rfl rfl rfl rfl rfl A124 (Nat.le_of_ble_eq_true rfl) (hJ _ _ _ _ (by decide)) (xm_le ml_40 rfl) rfl ?_
            refine mt_40_0 hJ hov1 hov2 (d := d) (x1 := x1) (x2 := v118) K122.1 (by first | omega | decide) (by first | omega | decide) (fun hh126 K127 => ?_)
            have K128 := xk_tr K122 K127 rfl
            obtain ⟨u129, u130, u131, u132, u133, u134, u135, u136, u137, u138, u139, u140, u141, bu129, bu130, bu131, bu132, bu133, bu134, bu135, bu136, bu137, bu138, bu139, bu140, bu141, A142⟩ := xq_115 K128.1
            have e143 : u2 = u130 := xk_eqi (q := 1) K127 rfl A124 A142 rfl rfl
            subst e143
            show xw J ov (d + 3) 37 (221, [(8, .int v118), (7, .int v112), (5, .int r70), (6, .int v57), (0, .ref 115), (1, .int x1), (2, .int x2), (3, .int x3), (4, .int x4)], [], hh126) _
            refine xi_return kc_37_221 mr_37 ?_
            exact kk hh126 K128
      · refine xi_cmt (pc' := 150) kc_37_138 rfl (xc_ne_t (X := v62.toInt) (Y := 1) rfl (by decide) (by omega)) ?_
        refine xi_iconst (pc' := 151) (v := 0) kc_37_150 rfl rfl ?_
        obtain ⟨v144, ev144⟩ : ∃ q : Int32, v60 + 0 = q := ⟨_, rfl⟩
        have zv144 : v144.toInt = v60.toInt := by rw [← ev144]; exact (xz_add (X := v60.toInt) (Y := 0) rfl (by decide) (by omega) (by omega)).trans (by omega)
        refine xi_iadd (pc' := 152) (v := v144) kc_37_151 rfl ev144 ?_
        obtain ⟨v145, ev145⟩ : ∃ q : Int32, (v58 : Int32) * v144 = q := ⟨_, rfl⟩
        have rv145 := xc_rng v145
        refine xi_imul (pc' := 153) (v := v145) kc_37_152 rfl ev145 ?_
        refine xi_bipush (pc' := 155) (v := 100) kc_37_153 rfl rfl ?_
        obtain ⟨v146, ev146⟩ : ∃ q : Int32, v145 / 100 = q := ⟨_, rfl⟩
        have dv146 : 100 * v146.toInt ≤ v145.toInt + 99 ∧ v145.toInt ≤ 100 * v146.toInt + 99 := by rw [← ev146]; exact xz_div (X := v145.toInt) (Y := 100) rfl (by decide) (by decide)
        have bv146 : -21474837 ≤ v146.toInt ∧ v146.toInt ≤ 21474837 := by omega
        refine xi_idiv (pc' := 156) (v := v146) kc_37_155 rfl ev146 (by decide) ?_
        obtain ⟨v147, ev147⟩ : ∃ q : Int32, r16 - v146 = q := ⟨_, rfl⟩
        have zv147 : v147.toInt = (r16.toInt + (-1) * v146.toInt) := by rw [← ev147]; exact (xz_sub (X := r16.toInt) (Y := v146.toInt) rfl rfl (by omega) (by omega)).trans (by omega)
        refine xi_isub (pc' := 157) (v := v147) kc_37_156 rfl ev147 ?_
        refine xi_static (mj := 39) (as := [.int v147]) (st1 := []) (lv0 := [(0, .int v147)]) kc_37_157 rfl rfl (Nat.le_of_ble_eq_true rfl) rfl rfl (Nat.le_of_ble_eq_true rfl) (hJ _ _ _ _ (by decide)) (xm_le ml_39 rfl) rfl ?_
        refine mt_39_0 hJ hov1 hov2 (d := d + 1) (x0 := v147) K40.1 (fun r148 hh149 br148 K150 => ?_)
        have K151 := xk_tr K40 K150 rfl
        obtain ⟨u152, u153, u154, u155, u156, u157, u158, u159, u160, u161, u162, u163, u164, bu152, bu153, bu154, bu155, bu156, bu157, bu158, bu159, bu160, bu161, bu162, bu163, bu164, A165⟩ := xq_115 K151.1
        have e166 : u2 = u153 := xk_eqi (q := 1) K150 rfl A54 A165 rfl rfl
        subst e166
        show xw J ov (d + 3) 37 (160, [(6, .int v57), (5, .int r16), (0, .ref 115), (1, .int x1), (2, .int x2), (3, .int x3), (4, .int x4)], [.int r148], hh149) _
        refine xi_istore (pc' := 162) (lv' := [(5, .int r148), (6, .int v57), (0, .ref 115), (1, .int x1), (2, .int x2), (3, .int x3), (4, .int x4)]) kc_37_160 rfl rfl (xm_lt ml_37 rfl) ?_
        refine xi_aload_n (pc' := 163) (x := 115) kc_37_162 rfl rfl ?_
        refine xi_getfield (pc' := 166) (v := .ref 116) kc_37_163 rfl rfl rfl A165 rfl ?_
        refine xi_iload_n (pc' := 167) (x := x1) kc_37_166 rfl rfl ?_
        obtain ⟨y167, A167, hy167, ry167⟩ := xk_arr K151.1 xD_116
        obtain ⟨v168, ev168, bv168, dv168⟩ := xj_get hy167 ry167 (i := x1) (by omega) (by omega)
        refine xi_iaload (pc' := 168) (v := v168) kc_37_167 rfl A167 (by decide) rfl (xi_in (by omega) (by rw [hy167]; omega)) ev168 ?_
        refine xi_aload_n (pc' := 169) (x := 115) kc_37_168 rfl rfl ?_
        refine xi_getfield (pc' := 172) (v := .ref 117) kc_37_169 rfl rfl rfl A165 rfl ?_
        refine xi_iload_n (pc' := 173) (x := x1) kc_37_172 rfl rfl ?_
        obtain ⟨y169, A169, hy169, ry169⟩ := xk_arr K151.1 xD_117
        obtain ⟨v170, ev170, bv170, dv170⟩ := xj_get hy169 ry169 (i := x1) (by omega) (by omega)
        refine xi_iaload (pc' := 174) (v := v170) kc_37_173 rfl A169 (by decide) rfl (xi_in (by omega) (by rw [hy169]; omega)) ev170 ?_
        refine xi_static (mj := 22) (as := [.int v170]) (st1 := [.int v168]) (lv0 := [(0, .int v170)]) kc_37_174 rfl rfl (Nat.le_of_ble_eq_true rfl) rfl rfl (Nat.le_of_ble_eq_true rfl) (hJ _ _ _ _ (by decide)) (xm_le ml_22 rfl) rfl ?_
        refine mt_22_0 hJ hov1 hov2 (d := d + 1) (x0 := v170) K151.1 (fun r171 hh172 br171 K173 => ?_)
        have K174 := xk_tr K151 K173 rfl
        obtain ⟨u175, u176, u177, u178, u179, u180, u181, u182, u183, u184, u185, u186, u187, bu175, bu176, bu177, bu178, bu179, bu180, bu181, bu182, bu183, bu184, bu185, bu186, bu187, A188⟩ := xq_115 K174.1
        have e189 : u2 = u176 := xk_eqi (q := 1) K173 rfl A165 A188 rfl rfl
        subst e189
        show xw J ov (d + 3) 37 (177, [(5, .int r148), (6, .int v57), (0, .ref 115), (1, .int x1), (2, .int x2), (3, .int x3), (4, .int x4)], [.int r171, .int v168], hh172) _
        obtain ⟨v190, ev190⟩ : ∃ q : Int32, (v168 : Int32) * r171 = q := ⟨_, rfl⟩
        have rv190 := xc_rng v190
        refine xi_imul (pc' := 178) (v := v190) kc_37_177 rfl ev190 ?_
        refine xi_istore (pc' := 180) (lv' := [(7, .int v190), (5, .int r148), (6, .int v57), (0, .ref 115), (1, .int x1), (2, .int x2), (3, .int x3), (4, .int x4)]) kc_37_178 rfl rfl (xm_lt ml_37 rfl) ?_
        refine xi_iload (pc' := 182) (x := r148) kc_37_180 rfl rfl ?_
        refine xi_iload (pc' := 184) (x := v190) kc_37_182 rfl rfl ?_
        by_cases c191 : r148.toInt ≤ v190.toInt
        · refine xi_cmt (pc' := 195) kc_37_184 rfl (xc_le_t (X := r148.toInt) (Y := v190.toInt) rfl rfl (by omega)) ?_
          refine xi_iconst (pc' := 196) (v := 0) kc_37_195 rfl rfl ?_
          refine xi_istore (pc' := 198) (lv' := [(8, .int 0), (7, .int v190), (5, .int r148), (6, .int v57), (0, .ref 115), (1, .int x1), (2, .int x2), (3, .int x3), (4, .int x4)]) kc_37_196 rfl rfl (xm_lt ml_37 rfl) ?_
          refine xi_aload_n (pc' := 199) (x := 115) kc_37_198 rfl rfl ?_
          refine xi_getfield (pc' := 202) (v := .ref 141) kc_37_199 rfl rfl rfl A188 rfl ?_
          refine xi_iload_n (pc' := 203) (x := x1) kc_37_202 rfl rfl ?_
          refine xi_iload (pc' := 205) (x := r148) kc_37_203 rfl rfl ?_
          refine xi_iload (pc' := 207) (x := 0) kc_37_205 rfl rfl ?_
          obtain ⟨v192, ev192⟩ : ∃ q : Int32, r148 - 0 = q := ⟨_, rfl⟩
          have zv192 : v192.toInt = r148.toInt := by rw [← ev192]; exact (xz_sub (X := r148.toInt) (Y := 0) rfl (by decide) (by omega) (by omega)).trans (by omega)
          refine xi_isub (pc' := 208) (v := v192) kc_37_207 rfl ev192 ?_
          obtain ⟨y193, A193, hy193, ry193⟩ := xk_arr K174.1 xD_141
          obtain ⟨y194, s194, hy194, ry194⟩ := xj_set (v := v192) hy193 ry193 x1 (by first | omega | decide) (by first | omega | decide)
          refine xi_iastore (pc' := 209) (x' := y194) kc_37_208 rfl A193 rfl (xi_in (by omega) (by rw [hy193]; omega)) s194 (fun hh194 eh194 => ?_)
          have K195 := xk_pa K174 (xk_wa rfl) xD_141 hy194 ry194 eh194
          refine xi_iload (pc' := 211) (x := 0) kc_37_209 rfl rfl ?_
          refine xi_ift (pc' := 221) kc_37_211 rfl rfl ?_
          refine xi_return kc_37_221 mr_37 ?_
          exact kk hh194 K195
        · refine xi_cmf (pc' := 187) kc_37_184 rfl (xc_le_f (X := r148.toInt) (Y := v190.toInt) rfl rfl (by omega)) ?_
          refine xi_iload (pc' := 189) (x := r148) kc_37_187 rfl rfl ?_
          refine xi_iload (pc' := 191) (x := v190) kc_37_189 rfl rfl ?_
          obtain ⟨v196, ev196⟩ : ∃ q : Int32, (r148 : Int32) - v190 = q := ⟨_, rfl⟩
          have rv196 := xc_rng v196
          refine xi_isub (pc' := 192) (v := v196) kc_37_191 rfl ev196 ?_
          refine xi_goto (pc' := 196) kc_37_192 rfl ?_
          refine xi_istore (pc' := 198) (lv' := [(8, .int v196), (7, .int v190), (5, .int r148), (6, .int v57), (0, .ref 115), (1, .int x1), (2, .int x2), (3, .int x3), (4, .int x4)]) kc_37_196 rfl rfl (xm_lt ml_37 rfl) ?_
          refine xi_aload_n (pc' := 199) (x := 115) kc_37_198 rfl rfl ?_
          refine xi_getfield (pc' := 202) (v := .ref 141) kc_37_199 rfl rfl rfl A188 rfl ?_
          refine xi_iload_n (pc' := 203) (x := x1) kc_37_202 rfl rfl ?_
          refine xi_iload (pc' := 205) (x := r148) kc_37_203 rfl rfl ?_
          refine xi_iload (pc' := 207) (x := v196) kc_37_205 rfl rfl ?_
          obtain ⟨v197, ev197⟩ : ∃ q : Int32, (r148 : Int32) - v196 = q := ⟨_, rfl⟩
          have rv197 := xc_rng v197
          refine xi_isub (pc' := 208) (v := v197) kc_37_207 rfl ev197 ?_
          obtain ⟨y198, A198, hy198, ry198⟩ := xk_arr K174.1 xD_141
          obtain ⟨y199, s199, hy199, ry199⟩ := xj_set (v := v197) hy198 ry198 x1 (by first | omega | decide) (by first | omega | decide)
          refine xi_iastore (pc' := 209) (x' := y199) kc_37_208 rfl A198 rfl (xi_in (by omega) (by rw [hy198]; omega)) s199 (fun hh199 eh199 => ?_)
          have K200 := xk_pa K174 (xk_wa rfl) xD_141 hy199 ry199 eh199
          refine xi_iload (pc' := 211) (x := v196) kc_37_209 rfl rfl ?_
          by_cases c201 : v196.toInt ≤ 0
          · refine xi_ift (pc' := 221) kc_37_211 rfl (xc_le_t (X := v196.toInt) (Y := 0) rfl (by decide) (by omega)) ?_
            refine xi_return kc_37_221 mr_37 ?_
            exact kk hh199 K200
          · refine xi_iff (pc' := 214) kc_37_211 rfl (xc_le_f (X := v196.toInt) (Y := 0) rfl (by decide) (by omega)) ?_
            refine xi_aload_n (pc' := 215) (x := 115) kc_37_214 rfl rfl ?_
            refine xi_iload_n (pc' := 216) (x := x1) kc_37_215 rfl rfl ?_
            refine xi_iload (pc' := 218) (x := v196) kc_37_216 rfl rfl ?_
            have A202 := ((eh199.2.1 115 (by decide)).trans A188)
            refine xi_virtual (mj := 40) (as := [.int x1, .int v196]) (st1 := []) (lv0 := [(0, .ref 115), (1, .int x1), (2, .int v196)]) kc_37_218 rfl rfl rfl rfl rfl A202 (Nat.le_of_ble_eq_true rfl) (hJ _ _ _ _ (by decide)) (xm_le ml_40 rfl) rfl ?_
            refine mt_40_0 hJ hov1 hov2 (d := d) (x1 := x1) (x2 := v196) K200.1 (by first | omega | decide) (by first | omega | decide) (fun hh204 K205 => ?_)
            have K206 := xk_tr K200 K205 rfl
            obtain ⟨u207, u208, u209, u210, u211, u212, u213, u214, u215, u216, u217, u218, u219, bu207, bu208, bu209, bu210, bu211, bu212, bu213, bu214, bu215, bu216, bu217, bu218, bu219, A220⟩ := xq_115 K206.1
            have e221 : u2 = u208 := xk_eqi (q := 1) K205 rfl A202 A220 rfl rfl
            subst e221
            show xw J ov (d + 3) 37 (221, [(8, .int v196), (7, .int v190), (5, .int r148), (6, .int v57), (0, .ref 115), (1, .int x1), (2, .int x2), (3, .int x3), (4, .int x4)], [], hh204) _
            refine xi_return kc_37_221 mr_37 ?_
            exact kk hh204 K206
    · refine xi_cmf (pc' := 36) kc_37_33 rfl (xc_ge_f (X := x6.toInt) (Y := u5.toInt) rfl rfl (by omega)) ?_
      refine xi_iload (pc' := 38) (x := x5) kc_37_36 rfl rfl ?_
      refine xi_aload_n (pc' := 39) (x := 115) kc_37_38 rfl rfl ?_
      refine xi_getfield (pc' := 42) (v := .ref 135) kc_37_39 rfl rfl rfl A14 rfl ?_
      refine xi_iload (pc' := 44) (x := x6) kc_37_42 rfl rfl ?_
      obtain ⟨y222, A222, hy222, ry222⟩ := xk_arr K.1 xD_135
      obtain ⟨v223, ev223, bv223, dv223⟩ := xj_get hy222 ry222 (i := x6) (by omega) (by omega)
      refine xi_iaload (pc' := 45) (v := v223) kc_37_44 rfl A222 (by decide) rfl (xi_in (by omega) (by rw [hy222]; omega)) ev223 ?_
      refine xi_iconst (pc' := 46) (v := 3) kc_37_45 rfl rfl ?_
      by_cases c224 : v223.toInt = 3
      · refine xi_cmf (pc' := 49) kc_37_46 rfl (xc_ne_f (X := v223.toInt) (Y := 3) rfl (by decide) (by omega)) ?_
        refine xi_aload_n (pc' := 50) (x := 115) kc_37_49 rfl rfl ?_
        refine xi_getfield (pc' := 53) (v := .ref 136) kc_37_50 rfl rfl rfl A14 rfl ?_
        refine xi_iload (pc' := 55) (x := x6) kc_37_53 rfl rfl ?_
        obtain ⟨y225, A225, hy225, ry225⟩ := xk_arr K.1 xD_136
        obtain ⟨v226, ev226, bv226, dv226⟩ := xj_get hy225 ry225 (i := x6) (by omega) (by omega)
        refine xi_iaload (pc' := 56) (v := v226) kc_37_55 rfl A225 (by decide) rfl (xi_in (by omega) (by rw [hy225]; omega)) ev226 ?_
        refine xi_iload_n (pc' := 57) (x := x1) kc_37_56 rfl rfl ?_
        by_cases c227 : v226.toInt = x1.toInt
        · refine xi_cmf (pc' := 60) kc_37_57 rfl (xc_ne_f (X := v226.toInt) (Y := x1.toInt) rfl rfl (by omega)) ?_
          refine xi_aload_n (pc' := 61) (x := 115) kc_37_60 rfl rfl ?_
          refine xi_iload (pc' := 63) (x := x6) kc_37_61 rfl rfl ?_
          refine xi_iload_n (pc' := 64) (x := x2) kc_37_63 rfl rfl ?_
          refine xi_iload_n (pc' := 65) (x := x3) kc_37_64 rfl rfl ?_
          refine xi_iload (pc' := 67) (x := x4) kc_37_65 rfl rfl ?_
          refine xi_virtual (mj := 38) (as := [.int x6, .int x2, .int x3, .int x4]) (st1 := [.int x5]) (lv0 := [(0, .ref 115), (1, .int x6), (2, .int x2), (3, .int x3), (4, .int x4)]) kc_37_67 rfl rfl rfl rfl rfl A14 (Nat.le_of_ble_eq_true rfl) (hJ _ _ _ _ (by decide)) (xm_le ml_38 rfl) rfl ?_
          refine mt_38_0 hJ hov1 hov2 (d := d + 1) (x1 := x6) (x2 := x2) (x3 := x3) (x4 := x4) K.1 (by first | omega | decide) (by first | omega | decide) (by first | omega | decide) (by first | omega | decide) (fun r228 hh229 br228 K230 => ?_)
          have K231 := xk_tr K K230 rfl
          obtain ⟨u232, u233, u234, u235, u236, u237, u238, u239, u240, u241, u242, u243, u244, bu232, bu233, bu234, bu235, bu236, bu237, bu238, bu239, bu240, bu241, bu242, bu243, bu244, A245⟩ := xq_115 K231.1
          have e246 : u2 = u233 := xk_eqi (q := 1) K230 rfl A14 A245 rfl rfl
          subst e246
          show xw J ov (d + 3) 37 (70, [(0, .ref 115), (1, .int x1), (2, .int x2), (3, .int x3), (4, .int x4), (5, .int x5), (6, .int x6)], [.int r228, .int x5], hh229) _
          by_cases c247 : r228.toInt = 0
          · refine xi_ift (pc' := 83) kc_37_70 rfl (xc_eq_t (X := r228.toInt) (Y := 0) rfl (by decide) (by omega)) ?_
            refine xi_iconst (pc' := 84) (v := 0) kc_37_83 rfl rfl ?_
            obtain ⟨v248, ev248⟩ : ∃ q : Int32, x5 + 0 = q := ⟨_, rfl⟩
            have zv248 : v248.toInt = x5.toInt := by rw [← ev248]; exact (xz_add (X := x5.toInt) (Y := 0) rfl (by decide) (by omega) (by omega)).trans (by omega)
            refine xi_iadd (pc' := 85) (v := v248) kc_37_84 rfl ev248 ?_
            refine xi_istore (pc' := 87) (lv' := [(5, .int v248), (0, .ref 115), (1, .int x1), (2, .int x2), (3, .int x3), (4, .int x4), (6, .int x6)]) kc_37_85 rfl rfl (xm_lt ml_37 rfl) ?_
            obtain ⟨v249, ev249⟩ : ∃ q : Int32, x6 + 1 = q := ⟨_, rfl⟩
            have zv249 : v249.toInt = (x6.toInt + 1) := by rw [← ev249]; exact (xz_add (X := x6.toInt) (Y := 1) rfl (by decide) (by omega) (by omega)).trans (by omega)
            refine xi_iinc (pc' := 90) (x := x6) (v := v249) (lv' := [(6, .int v249), (5, .int v248), (0, .ref 115), (1, .int x1), (2, .int x2), (3, .int x3), (4, .int x4)]) kc_37_87 rfl rfl ev249 rfl (xm_lt ml_37 rfl) ?_
            refine xi_goto (pc' := 27) kc_37_90 rfl ?_
            refine xw_lv (b := [(0, .ref 115), (1, .int x1), (2, .int x2), (3, .int x3), (4, .int x4), (5, .int v248), (6, .int v249)]) (lvS_cons (lvS_cons (lvS_cons (lvS_cons (lvS_cons (lvS_cons (lvS_cons (lvS_nil (show ([6, 5, 0, 1, 2, 3, 4] : List Nat).Nodup by decide)) rfl) rfl) rfl) rfl) rfl) rfl) rfl) ?_
            exact i0 x1 x2 x3 x4 v248 v249 hh229 (by omega) (by omega) (by omega) (by omega) (by omega) K231 (by omega)
          · refine xi_iff (pc' := 73) kc_37_70 rfl (xc_eq_f (X := r228.toInt) (Y := 0) rfl (by decide) (by omega)) ?_
            refine xi_aload_n (pc' := 74) (x := 115) kc_37_73 rfl rfl ?_
            refine xi_getfield (pc' := 77) (v := .ref 137) kc_37_74 rfl rfl rfl A245 rfl ?_
            refine xi_iload (pc' := 79) (x := x6) kc_37_77 rfl rfl ?_
            obtain ⟨y250, A250, hy250, ry250⟩ := xk_arr K231.1 xD_137
            obtain ⟨v251, ev251, bv251, dv251⟩ := xj_get hy250 ry250 (i := x6) (by omega) (by omega)
            refine xi_iaload (pc' := 80) (v := v251) kc_37_79 rfl A250 (by decide) rfl (xi_in (by omega) (by rw [hy250]; omega)) ev251 ?_
            refine xi_goto (pc' := 84) kc_37_80 rfl ?_
            obtain ⟨v252, ev252⟩ : ∃ q : Int32, (x5 : Int32) + v251 = q := ⟨_, rfl⟩
            have rv252 := xc_rng v252
            refine xi_iadd (pc' := 85) (v := v252) kc_37_84 rfl ev252 ?_
            refine xi_istore (pc' := 87) (lv' := [(5, .int v252), (0, .ref 115), (1, .int x1), (2, .int x2), (3, .int x3), (4, .int x4), (6, .int x6)]) kc_37_85 rfl rfl (xm_lt ml_37 rfl) ?_
            obtain ⟨v253, ev253⟩ : ∃ q : Int32, x6 + 1 = q := ⟨_, rfl⟩
            have zv253 : v253.toInt = (x6.toInt + 1) := by rw [← ev253]; exact (xz_add (X := x6.toInt) (Y := 1) rfl (by decide) (by omega) (by omega)).trans (by omega)
            refine xi_iinc (pc' := 90) (x := x6) (v := v253) (lv' := [(6, .int v253), (5, .int v252), (0, .ref 115), (1, .int x1), (2, .int x2), (3, .int x3), (4, .int x4)]) kc_37_87 rfl rfl ev253 rfl (xm_lt ml_37 rfl) ?_
            refine xi_goto (pc' := 27) kc_37_90 rfl ?_
            refine xw_lv (b := [(0, .ref 115), (1, .int x1), (2, .int x2), (3, .int x3), (4, .int x4), (5, .int v252), (6, .int v253)]) (lvS_cons (lvS_cons (lvS_cons (lvS_cons (lvS_cons (lvS_cons (lvS_cons (lvS_nil (show ([6, 5, 0, 1, 2, 3, 4] : List Nat).Nodup by decide)) rfl) rfl) rfl) rfl) rfl) rfl) rfl) ?_
            exact i0 x1 x2 x3 x4 v252 v253 hh229 (by omega) (by omega) (by omega) (by omega) (by omega) K231 (by omega)
        · refine xi_cmt (pc' := 83) kc_37_57 rfl (xc_ne_t (X := v226.toInt) (Y := x1.toInt) rfl rfl (by omega)) ?_
          refine xi_iconst (pc' := 84) (v := 0) kc_37_83 rfl rfl ?_
          obtain ⟨v254, ev254⟩ : ∃ q : Int32, x5 + 0 = q := ⟨_, rfl⟩
          have zv254 : v254.toInt = x5.toInt := by rw [← ev254]; exact (xz_add (X := x5.toInt) (Y := 0) rfl (by decide) (by omega) (by omega)).trans (by omega)
          refine xi_iadd (pc' := 85) (v := v254) kc_37_84 rfl ev254 ?_
          refine xi_istore (pc' := 87) (lv' := [(5, .int v254), (0, .ref 115), (1, .int x1), (2, .int x2), (3, .int x3), (4, .int x4), (6, .int x6)]) kc_37_85 rfl rfl (xm_lt ml_37 rfl) ?_
          obtain ⟨v255, ev255⟩ : ∃ q : Int32, x6 + 1 = q := ⟨_, rfl⟩
          have zv255 : v255.toInt = (x6.toInt + 1) := by rw [← ev255]; exact (xz_add (X := x6.toInt) (Y := 1) rfl (by decide) (by omega) (by omega)).trans (by omega)
          refine xi_iinc (pc' := 90) (x := x6) (v := v255) (lv' := [(6, .int v255), (5, .int v254), (0, .ref 115), (1, .int x1), (2, .int x2), (3, .int x3), (4, .int x4)]) kc_37_87 rfl rfl ev255 rfl (xm_lt ml_37 rfl) ?_
          refine xi_goto (pc' := 27) kc_37_90 rfl ?_
          refine xw_lv (b := [(0, .ref 115), (1, .int x1), (2, .int x2), (3, .int x3), (4, .int x4), (5, .int v254), (6, .int v255)]) (lvS_cons (lvS_cons (lvS_cons (lvS_cons (lvS_cons (lvS_cons (lvS_cons (lvS_nil (show ([6, 5, 0, 1, 2, 3, 4] : List Nat).Nodup by decide)) rfl) rfl) rfl) rfl) rfl) rfl) rfl) ?_
          exact i0 x1 x2 x3 x4 v254 v255 h (by omega) (by omega) (by omega) (by omega) (by omega) K (by omega)
      · refine xi_cmt (pc' := 83) kc_37_46 rfl (xc_ne_t (X := v223.toInt) (Y := 3) rfl (by decide) (by omega)) ?_
        refine xi_iconst (pc' := 84) (v := 0) kc_37_83 rfl rfl ?_
        obtain ⟨v256, ev256⟩ : ∃ q : Int32, x5 + 0 = q := ⟨_, rfl⟩
        have zv256 : v256.toInt = x5.toInt := by rw [← ev256]; exact (xz_add (X := x5.toInt) (Y := 0) rfl (by decide) (by omega) (by omega)).trans (by omega)
        refine xi_iadd (pc' := 85) (v := v256) kc_37_84 rfl ev256 ?_
        refine xi_istore (pc' := 87) (lv' := [(5, .int v256), (0, .ref 115), (1, .int x1), (2, .int x2), (3, .int x3), (4, .int x4), (6, .int x6)]) kc_37_85 rfl rfl (xm_lt ml_37 rfl) ?_
        obtain ⟨v257, ev257⟩ : ∃ q : Int32, x6 + 1 = q := ⟨_, rfl⟩
        have zv257 : v257.toInt = (x6.toInt + 1) := by rw [← ev257]; exact (xz_add (X := x6.toInt) (Y := 1) rfl (by decide) (by omega) (by omega)).trans (by omega)
        refine xi_iinc (pc' := 90) (x := x6) (v := v257) (lv' := [(6, .int v257), (5, .int v256), (0, .ref 115), (1, .int x1), (2, .int x2), (3, .int x3), (4, .int x4)]) kc_37_87 rfl rfl ev257 rfl (xm_lt ml_37 rfl) ?_
        refine xi_goto (pc' := 27) kc_37_90 rfl ?_
        refine xw_lv (b := [(0, .ref 115), (1, .int x1), (2, .int x2), (3, .int x3), (4, .int x4), (5, .int v256), (6, .int v257)]) (lvS_cons (lvS_cons (lvS_cons (lvS_cons (lvS_cons (lvS_cons (lvS_cons (lvS_nil (show ([6, 5, 0, 1, 2, 3, 4] : List Nat).Nodup by decide)) rfl) rfl) rfl) rfl) rfl) rfl) rfl) ?_
        exact i0 x1 x2 x3 x4 v256 v257 h (by omega) (by omega) (by omega) (by omega) (by omega) K (by omega)
set_option maxHeartbeats 4000000 in
theorem mt_37_0 {J : xe_J} {ov : List (List Int32)} (hJ : ∀ d mj as h, mj ≠ xe_loff → J d mj as h = none) (hov1 : ov[1]? = some [10, 0, 0, 0, 0, 0]) (hov2 : ov[2]? = some [99, 30, 50, 50, 1, 99999]) {d : Nat} {Q : Option Value → xe_H → Prop} {h : xe_H} {x1 : Int32} {x2 : Int32} {x3 : Int32} {x4 : Int32} (T : xt h) (b1 : (0 ≤ x1.toInt ∧ x1.toInt ≤ 5)) (b2 : (0 ≤ x2.toInt ∧ x2.toInt ≤ 63)) (b3 : (0 ≤ x3.toInt ∧ x3.toInt ≤ 1)) (b4 : (0 ≤ x4.toInt ∧ x4.toInt ≤ 599)) (kk : (∀ h' : xe_H, xk [(0, 9), (115, 1), (83, 0), (6, 0), (123, 0), (9, 0), (124, 0), (7, 0), (10, 0), (5, 0), (8, 0)] h h' → Q none h')) : xw J ov (d + 3) 37 (0, [(0, .ref 115), (1, .int x1), (2, .int x2), (3, .int x3), (4, .int x4)], [], h) Q := by
  have K : xk [(0, 9), (115, 1), (83, 0), (6, 0), (123, 0), (9, 0), (124, 0), (7, 0), (10, 0), (5, 0), (8, 0)] h h := xk_re T
  refine xi_aload_n (pc' := 1) (x := 115) kc_37_0 rfl rfl ?_
  obtain ⟨u1, u2, u3, u4, u5, u6, u7, u8, u9, u10, u11, u12, u13, bu1, bu2, bu3, bu4, bu5, bu6, bu7, bu8, bu9, bu10, bu11, bu12, bu13, A14⟩ := xq_115 K.1
  refine xi_getfield (pc' := 4) (v := .ref 141) kc_37_1 rfl rfl rfl A14 rfl ?_
  refine xi_iload_n (pc' := 5) (x := x1) kc_37_4 rfl rfl ?_
  obtain ⟨y15, A15, hy15, ry15⟩ := xk_arr K.1 xD_141
  obtain ⟨v16, ev16, bv16, dv16⟩ := xj_get hy15 ry15 (i := x1) (by omega) (by omega)
  refine xi_iaload (pc' := 6) (v := v16) kc_37_5 rfl A15 (by decide) rfl (xi_in (by omega) (by rw [hy15]; omega)) ev16 ?_
  refine xi_aload_n (pc' := 7) (x := 115) kc_37_6 rfl rfl ?_
  refine xi_getfield (pc' := 10) (v := .ref 122) kc_37_7 rfl rfl rfl A14 rfl ?_
  refine xi_bipush (pc' := 12) (v := 24) kc_37_10 rfl rfl ?_
  refine xi_iload_n (pc' := 13) (x := x1) kc_37_12 rfl rfl ?_
  obtain ⟨v17, ev17⟩ : ∃ q : Int32, 24 * x1 = q := ⟨_, rfl⟩
  have zv17 : v17.toInt = (24) * x1.toInt := by rw [← ev17]; exact (xz_mul (X := 24) (Y := x1.toInt) (by decide) rfl (by omega) (by omega)).trans (by omega)
  refine xi_imul (pc' := 14) (v := v17) kc_37_13 rfl ev17 ?_
  refine xi_iload (pc' := 16) (x := x4) kc_37_14 rfl rfl ?_
  refine xi_bipush (pc' := 18) (v := 24) kc_37_16 rfl rfl ?_
  obtain ⟨v18, ev18⟩ : ∃ q : Int32, x4 - x4 / 24 * 24 = q := ⟨_, rfl⟩
  have dv18 : v18.toInt = x4.toInt % 24 := by rw [← ev18]; exact xz_reme (X := x4.toInt) (Y := 24) rfl (by decide) (by omega) (by decide)
  have bv18 : 0 ≤ v18.toInt ∧ v18.toInt ≤ 23 := by omega
  refine xi_irem (pc' := 19) (v := v18) kc_37_18 rfl ev18 (by decide) ?_
  obtain ⟨v19, ev19⟩ : ∃ q : Int32, v17 + v18 = q := ⟨_, rfl⟩
  have zv19 : v19.toInt = ((24) * x1.toInt + v18.toInt) := by rw [← ev19]; exact (xz_add (X := (24) * x1.toInt) (Y := v18.toInt) zv17 rfl (by omega) (by omega)).trans (by omega)
  refine xi_iadd (pc' := 20) (v := v19) kc_37_19 rfl ev19 ?_
  obtain ⟨y20, A20, hy20, ry20⟩ := xk_arr K.1 xD_122
  obtain ⟨v21, ev21, bv21, dv21⟩ := xj_get hy20 ry20 (i := v19) (by rw [zv19]; omega) (by rw [zv19]; omega)
  refine xi_iaload (pc' := 21) (v := v21) kc_37_20 rfl A20 (by decide) rfl (xi_in (by rw [zv19]; omega) (by rw [hy20]; rw [zv19]; omega)) ev21 ?_
  obtain ⟨v22, ev22⟩ : ∃ q : Int32, (v16 : Int32) + v21 = q := ⟨_, rfl⟩
  have rv22 := xc_rng v22
  refine xi_iadd (pc' := 22) (v := v22) kc_37_21 rfl ev22 ?_
  refine xi_istore (pc' := 24) (lv' := [(5, .int v22), (0, .ref 115), (1, .int x1), (2, .int x2), (3, .int x3), (4, .int x4)]) kc_37_22 rfl rfl (xm_lt ml_37 rfl) ?_
  refine xi_iconst (pc' := 25) (v := 0) kc_37_24 rfl rfl ?_
  refine xi_istore (pc' := 27) (lv' := [(6, .int 0), (5, .int v22), (0, .ref 115), (1, .int x1), (2, .int x2), (3, .int x3), (4, .int x4)]) kc_37_25 rfl rfl (xm_lt ml_37 rfl) ?_
  have zc0 : (0 : Int32).toInt = 0 := by decide
  refine xw_lv (b := [(0, .ref 115), (1, .int x1), (2, .int x2), (3, .int x3), (4, .int x4), (5, .int v22), (6, .int 0)]) (lvS_cons (lvS_cons (lvS_cons (lvS_cons (lvS_cons (lvS_cons (lvS_cons (lvS_nil (show ([6, 5, 0, 1, 2, 3, 4] : List Nat).Nodup by decide)) rfl) rfl) rfl) rfl) rfl) rfl) rfl) ?_
  exact (lp_37_0 hJ hov1 hov2 (d := d) (hb := h) (fun h9 K9 => kk h9 (xk_tr K K9 rfl)) 11) x1 x2 x3 x4 v22 0 h (by omega) (by omega) (by omega) (by omega) (by omega) (xk_re K.1) (by omega)
set_option maxHeartbeats 4000000 in
theorem lp_36_0 {J : xe_J} {ov : List (List Int32)} (hJ : ∀ d mj as h, mj ≠ xe_loff → J d mj as h = none) (hov1 : ov[1]? = some [10, 0, 0, 0, 0, 0]) (hov2 : ov[2]? = some [99, 30, 50, 50, 1, 99999]) {d : Nat} {Q : Option Value → xe_H → Prop} {hb : xe_H} (kk : (∀ h' : xe_H, xk [(0, 9), (115, 1), (83, 0), (6, 0), (123, 0), (9, 0), (124, 0), (7, 0), (10, 0), (5, 0), (8, 0)] hb h' → Q none h')) : ∀ m : Nat, (∀ (x1 : Int32) (x2 : Int32) (x3 : Int32) (x4 : Int32) (h : xe_H), (0 ≤ x1.toInt ∧ x1.toInt ≤ 63) → (0 ≤ x2.toInt ∧ x2.toInt ≤ 1) → (0 ≤ x3.toInt ∧ x3.toInt ≤ 599) → (0 ≤ x4.toInt ∧ x4.toInt ≤ 6) → xk [(0, 9), (115, 1), (83, 0), (6, 0), (123, 0), (9, 0), (124, 0), (7, 0), (10, 0), (5, 0), (8, 0)] hb h → (-1) * x4.toInt + 30 < (m : Int) → xw J ov (d + 4) 36 (3, [(0, .ref 115), (1, .int x1), (2, .int x2), (3, .int x3), (4, .int x4)], [], h) Q) ∧ (∀ (x1 : Int32) (x2 : Int32) (x3 : Int32) (x4 : Int32) (h : xe_H), (0 ≤ x1.toInt ∧ x1.toInt ≤ 63) → (0 ≤ x2.toInt ∧ x2.toInt ≤ 1) → (0 ≤ x3.toInt ∧ x3.toInt ≤ 599) → (0 ≤ x4.toInt ∧ x4.toInt ≤ 10) → xk [(0, 9), (115, 1), (83, 0), (6, 0), (123, 0), (9, 0), (124, 0), (7, 0), (10, 0), (5, 0), (8, 0)] hb h → (-1) * x4.toInt + 23 < (m : Int) → xw J ov (d + 4) 36 (28, [(0, .ref 115), (1, .int x1), (2, .int x2), (3, .int x3), (4, .int x4)], [], h) Q) ∧ (∀ (x4 : Int32) (h : xe_H), (0 ≤ x4.toInt ∧ x4.toInt ≤ 12) → xk [(0, 9), (115, 1), (83, 0), (6, 0), (123, 0), (9, 0), (124, 0), (7, 0), (10, 0), (5, 0), (8, 0)] hb h → (-1) * x4.toInt + 12 < (m : Int) → xw J ov (d + 4) 36 (157, [(0, .ref 115), (4, .int x4)], [], h) Q) := by
  intro m
  induction m with
  | zero =>
    refine ⟨?_, ?_, ?_⟩
    · intro x1 x2 x3 x4 h b1 b2 b3 b4 K hm; exfalso; omega
    · intro x1 x2 x3 x4 h b1 b2 b3 b4 K hm; exfalso; omega
    · intro x4 h b4 K hm; exfalso; omega
  | succ m ih =>
    obtain ⟨i0, i1, i2⟩ := ih
    refine ⟨?_, ?_, ?_⟩
    · intro x1 x2 x3 x4 h b1 b2 b3 b4 K hm
      refine xi_iload (pc' := 5) (x := x4) kc_36_3 rfl rfl ?_
      refine xi_bipush (pc' := 7) (v := 6) kc_36_5 rfl rfl ?_
      by_cases c1 : 6 ≤ x4.toInt
      · refine xi_cmt (pc' := 25) kc_36_7 rfl (xc_ge_t (X := x4.toInt) (Y := 6) rfl (by decide) (by omega)) ?_
        refine xi_iconst (pc' := 26) (v := 0) kc_36_25 rfl rfl ?_
        refine xi_istore (pc' := 28) (lv' := [(4, .int 0), (0, .ref 115), (1, .int x1), (2, .int x2), (3, .int x3)]) kc_36_26 rfl rfl (xm_lt ml_36 rfl) ?_
        have zc0 : (0 : Int32).toInt = 0 := by decide
        refine xw_lv (b := [(0, .ref 115), (1, .int x1), (2, .int x2), (3, .int x3), (4, .int 0)]) (lvS_cons (lvS_cons (lvS_cons (lvS_cons (lvS_cons (lvS_nil (show ([4, 0, 1, 2, 3] : List Nat).Nodup by decide)) rfl) rfl) rfl) rfl) rfl) ?_
        exact i1 x1 x2 x3 0 h (by omega) (by omega) (by omega) (by omega) K (by omega)
      · refine xi_cmf (pc' := 10) kc_36_7 rfl (xc_ge_f (X := x4.toInt) (Y := 6) rfl (by decide) (by omega)) ?_
        refine xi_aload_n (pc' := 11) (x := 115) kc_36_10 rfl rfl ?_
        refine xi_iload (pc' := 13) (x := x4) kc_36_11 rfl rfl ?_
        refine xi_iload_n (pc' := 14) (x := x1) kc_36_13 rfl rfl ?_
        refine xi_iload_n (pc' := 15) (x := x2) kc_36_14 rfl rfl ?_
        refine xi_iload_n (pc' := 16) (x := x3) kc_36_15 rfl rfl ?_
        obtain ⟨u2, u3, u4, u5, u6, u7, u8, u9, u10, u11, u12, u13, u14, bu2, bu3, bu4, bu5, bu6, bu7, bu8, bu9, bu10, bu11, bu12, bu13, bu14, A15⟩ := xq_115 K.1
        refine xi_virtual (mj := 37) (as := [.int x4, .int x1, .int x2, .int x3]) (st1 := []) (lv0 := [(0, .ref 115), (1, .int x4), (2, .int x1), (3, .int x2), (4, .int x3)]) kc_36_16 rfl rfl rfl rfl rfl A15 (Nat.le_of_ble_eq_true rfl) (hJ _ _ _ _ (by decide)) (xm_le ml_37 rfl) rfl ?_
        refine mt_37_0 hJ hov1 hov2 (d := d) (x1 := x4) (x2 := x1) (x3 := x2) (x4 := x3) K.1 (by first | omega | decide) (by first | omega | decide) (by first | omega | decide) (by first | omega | decide) (fun hh17 K18 => ?_)
        have K19 := xk_tr K K18 rfl
        obtain ⟨u20, u21, u22, u23, u24, u25, u26, u27, u28, u29, u30, u31, u32, bu20, bu21, bu22, bu23, bu24, bu25, bu26, bu27, bu28, bu29, bu30, bu31, bu32, A33⟩ := xq_115 K19.1
        have e34 : u3 = u21 := xk_eqi (q := 1) K18 rfl A15 A33 rfl rfl
        subst e34
        show xw J ov (d + 4) 36 (19, [(0, .ref 115), (1, .int x1), (2, .int x2), (3, .int x3), (4, .int x4)], [], hh17) _
        obtain ⟨v35, ev35⟩ : ∃ q : Int32, x4 + 1 = q := ⟨_, rfl⟩
        have zv35 : v35.toInt = (x4.toInt + 1) := by rw [← ev35]; exact (xz_add (X := x4.toInt) (Y := 1) rfl (by decide) (by omega) (by omega)).trans (by omega)
        refine xi_iinc (pc' := 22) (x := x4) (v := v35) (lv' := [(4, .int v35), (0, .ref 115), (1, .int x1), (2, .int x2), (3, .int x3)]) kc_36_19 rfl rfl ev35 rfl (xm_lt ml_36 rfl) ?_
        refine xi_goto (pc' := 3) kc_36_22 rfl ?_
        refine xw_lv (b := [(0, .ref 115), (1, .int x1), (2, .int x2), (3, .int x3), (4, .int v35)]) (lvS_cons (lvS_cons (lvS_cons (lvS_cons (lvS_cons (lvS_nil (show ([4, 0, 1, 2, 3] : List Nat).Nodup by decide)) rfl) rfl) rfl) rfl) rfl) ?_
        exact i0 x1 x2 x3 v35 hh17 (by omega) (by omega) (by omega) (by omega) K19 (by omega)
    · intro x1 x2 x3 x4 h b1 b2 b3 b4 K hm
      refine xi_iload (pc' := 30) (x := x4) kc_36_28 rfl rfl ?_
      refine xi_aload_n (pc' := 31) (x := 115) kc_36_30 rfl rfl ?_
      obtain ⟨u1, u2, u3, u4, u5, u6, u7, u8, u9, u10, u11, u12, u13, bu1, bu2, bu3, bu4, bu5, bu6, bu7, bu8, bu9, bu10, bu11, bu12, bu13, A14⟩ := xq_115 K.1
      refine xi_getfield (pc' := 34) (v := .int u5) kc_36_31 rfl rfl rfl A14 rfl ?_
      by_cases c15 : u5.toInt ≤ x4.toInt
      · refine xi_cmt (pc' := 154) kc_36_34 rfl (xc_ge_t (X := x4.toInt) (Y := u5.toInt) rfl rfl (by omega)) ?_
        refine xi_iconst (pc' := 155) (v := 0) kc_36_154 rfl rfl ?_
        refine xi_istore (pc' := 157) (lv' := [(4, .int 0), (0, .ref 115), (1, .int x1), (2, .int x2), (3, .int x3)]) kc_36_155 rfl rfl (xm_lt ml_36 rfl) ?_
        have zc0 : (0 : Int32).toInt = 0 := by decide
        refine xw_lv (b := [(0, .ref 115), (4, .int 0)]) (lvS_cons (lvS_cons (lvS_nil (show ([4, 0, 1, 2, 3] : List Nat).Nodup by decide)) rfl) rfl) ?_
        exact i2 0 h (by omega) K (by omega)
      · refine xi_cmf (pc' := 37) kc_36_34 rfl (xc_ge_f (X := x4.toInt) (Y := u5.toInt) rfl rfl (by omega)) ?_
        refine xi_aload_n (pc' := 38) (x := 115) kc_36_37 rfl rfl ?_
        refine xi_getfield (pc' := 41) (v := .ref 135) kc_36_38 rfl rfl rfl A14 rfl ?_
        refine xi_iload (pc' := 43) (x := x4) kc_36_41 rfl rfl ?_
        obtain ⟨y16, A16, hy16, ry16⟩ := xk_arr K.1 xD_135
        obtain ⟨v17, ev17, bv17, dv17⟩ := xj_get hy16 ry16 (i := x4) (by omega) (by omega)
        refine xi_iaload (pc' := 44) (v := v17) kc_36_43 rfl A16 (by decide) rfl (xi_in (by omega) (by rw [hy16]; omega)) ev17 ?_
        refine xi_iconst (pc' := 45) (v := 3) kc_36_44 rfl rfl ?_
        by_cases c18 : 3 ≤ v17.toInt
        · refine xi_cmt (pc' := 148) kc_36_45 rfl (xc_ge_t (X := v17.toInt) (Y := 3) rfl (by decide) (by omega)) ?_
          obtain ⟨v19, ev19⟩ : ∃ q : Int32, x4 + 1 = q := ⟨_, rfl⟩
          have zv19 : v19.toInt = (x4.toInt + 1) := by rw [← ev19]; exact (xz_add (X := x4.toInt) (Y := 1) rfl (by decide) (by omega) (by omega)).trans (by omega)
          refine xi_iinc (pc' := 151) (x := x4) (v := v19) (lv' := [(4, .int v19), (0, .ref 115), (1, .int x1), (2, .int x2), (3, .int x3)]) kc_36_148 rfl rfl ev19 rfl (xm_lt ml_36 rfl) ?_
          refine xi_goto (pc' := 28) kc_36_151 rfl ?_
          refine xw_lv (b := [(0, .ref 115), (1, .int x1), (2, .int x2), (3, .int x3), (4, .int v19)]) (lvS_cons (lvS_cons (lvS_cons (lvS_cons (lvS_cons (lvS_nil (show ([4, 0, 1, 2, 3] : List Nat).Nodup by decide)) rfl) rfl) rfl) rfl) rfl) ?_
          exact i1 x1 x2 x3 v19 h (by omega) (by omega) (by omega) (by omega) K (by omega)
        · refine xi_cmf (pc' := 48) kc_36_45 rfl (xc_ge_f (X := v17.toInt) (Y := 3) rfl (by decide) (by omega)) ?_
          refine xi_aload_n (pc' := 49) (x := 115) kc_36_48 rfl rfl ?_
          refine xi_iload (pc' := 51) (x := x4) kc_36_49 rfl rfl ?_
          refine xi_iload_n (pc' := 52) (x := x1) kc_36_51 rfl rfl ?_
          refine xi_iload_n (pc' := 53) (x := x2) kc_36_52 rfl rfl ?_
          refine xi_iload_n (pc' := 54) (x := x3) kc_36_53 rfl rfl ?_
          refine xi_virtual (mj := 38) (as := [.int x4, .int x1, .int x2, .int x3]) (st1 := []) (lv0 := [(0, .ref 115), (1, .int x4), (2, .int x1), (3, .int x2), (4, .int x3)]) kc_36_54 rfl rfl rfl rfl rfl A14 (Nat.le_of_ble_eq_true rfl) (hJ _ _ _ _ (by decide)) (xm_le ml_38 rfl) rfl ?_
          refine mt_38_0 hJ hov1 hov2 (d := d + 2) (x1 := x4) (x2 := x1) (x3 := x2) (x4 := x3) K.1 (by first | omega | decide) (by first | omega | decide) (by first | omega | decide) (by first | omega | decide) (fun r20 hh21 br20 K22 => ?_)
          have K23 := xk_tr K K22 rfl
          obtain ⟨u24, u25, u26, u27, u28, u29, u30, u31, u32, u33, u34, u35, u36, bu24, bu25, bu26, bu27, bu28, bu29, bu30, bu31, bu32, bu33, bu34, bu35, bu36, A37⟩ := xq_115 K23.1
          have e38 : u2 = u25 := xk_eqi (q := 1) K22 rfl A14 A37 rfl rfl
          subst e38
          show xw J ov (d + 4) 36 (57, [(0, .ref 115), (1, .int x1), (2, .int x2), (3, .int x3), (4, .int x4)], [.int r20], hh21) _
          by_cases c39 : r20.toInt = 0
          · refine xi_ift (pc' := 148) kc_36_57 rfl (xc_eq_t (X := r20.toInt) (Y := 0) rfl (by decide) (by omega)) ?_
            obtain ⟨v40, ev40⟩ : ∃ q : Int32, x4 + 1 = q := ⟨_, rfl⟩
            have zv40 : v40.toInt = (x4.toInt + 1) := by rw [← ev40]; exact (xz_add (X := x4.toInt) (Y := 1) rfl (by decide) (by omega) (by omega)).trans (by omega)
            refine xi_iinc (pc' := 151) (x := x4) (v := v40) (lv' := [(4, .int v40), (0, .ref 115), (1, .int x1), (2, .int x2), (3, .int x3)]) kc_36_148 rfl rfl ev40 rfl (xm_lt ml_36 rfl) ?_
            refine xi_goto (pc' := 28) kc_36_151 rfl ?_
            refine xw_lv (b := [(0, .ref 115), (1, .int x1), (2, .int x2), (3, .int x3), (4, .int v40)]) (lvS_cons (lvS_cons (lvS_cons (lvS_cons (lvS_cons (lvS_nil (show ([4, 0, 1, 2, 3] : List Nat).Nodup by decide)) rfl) rfl) rfl) rfl) rfl) ?_
            exact i1 x1 x2 x3 v40 hh21 (by omega) (by omega) (by omega) (by omega) K23 (by omega)
          · refine xi_iff (pc' := 60) kc_36_57 rfl (xc_eq_f (X := r20.toInt) (Y := 0) rfl (by decide) (by omega)) ?_
            refine xi_aload_n (pc' := 61) (x := 115) kc_36_60 rfl rfl ?_
            refine xi_getfield (pc' := 64) (v := .ref 135) kc_36_61 rfl rfl rfl A37 rfl ?_
            refine xi_iload (pc' := 66) (x := x4) kc_36_64 rfl rfl ?_
            obtain ⟨y41, A41, hy41, ry41⟩ := xk_arr K23.1 xD_135
            obtain ⟨v42, ev42, bv42, dv42⟩ := xj_get hy41 ry41 (i := x4) (by omega) (by omega)
            refine xi_iaload (pc' := 67) (v := v42) kc_36_66 rfl A41 (by decide) rfl (xi_in (by omega) (by rw [hy41]; omega)) ev42 ?_
            by_cases c43 : v42.toInt = 0
            · refine xi_iff (pc' := 70) kc_36_67 rfl (xc_ne_f (X := v42.toInt) (Y := 0) rfl (by decide) (by omega)) ?_
              refine xi_aload_n (pc' := 71) (x := 115) kc_36_70 rfl rfl ?_
              refine xi_getfield (pc' := 74) (v := .ref 137) kc_36_71 rfl rfl rfl A37 rfl ?_
              refine xi_iload (pc' := 76) (x := x4) kc_36_74 rfl rfl ?_
              obtain ⟨y44, A44, hy44, ry44⟩ := xk_arr K23.1 xD_137
              obtain ⟨v45, ev45, bv45, dv45⟩ := xj_get hy44 ry44 (i := x4) (by omega) (by omega)
              refine xi_iaload (pc' := 77) (v := v45) kc_36_76 rfl A44 (by decide) rfl (xi_in (by omega) (by rw [hy44]; omega)) ev45 ?_
              refine xi_aload_n (pc' := 78) (x := 115) kc_36_77 rfl rfl ?_
              refine xi_getfield (pc' := 81) (v := .int u30) kc_36_78 rfl rfl rfl A37 rfl ?_
              obtain ⟨v46, ev46⟩ : ∃ q : Int32, (v45 : Int32) * u30 = q := ⟨_, rfl⟩
              have rv46 := xc_rng v46
              refine xi_imul (pc' := 82) (v := v46) kc_36_81 rfl ev46 ?_
              refine xi_goto (pc' := 116) kc_36_82 rfl ?_
              refine xi_istore (pc' := 118) (lv' := [(5, .int v46), (0, .ref 115), (1, .int x1), (2, .int x2), (3, .int x3), (4, .int x4)]) kc_36_116 rfl rfl (xm_lt ml_36 rfl) ?_
              refine xi_aload_n (pc' := 119) (x := 115) kc_36_118 rfl rfl ?_
              refine xi_getfield (pc' := 122) (v := .ref 142) kc_36_119 rfl rfl rfl A37 rfl ?_
              refine xi_aload_n (pc' := 123) (x := 115) kc_36_122 rfl rfl ?_
              refine xi_getfield (pc' := 126) (v := .ref 136) kc_36_123 rfl rfl rfl A37 rfl ?_
              refine xi_iload (pc' := 128) (x := x4) kc_36_126 rfl rfl ?_
              obtain ⟨y47, A47, hy47, ry47⟩ := xk_arr K23.1 xD_136
              obtain ⟨v48, ev48, bv48, dv48⟩ := xj_get hy47 ry47 (i := x4) (by omega) (by omega)
              refine xi_iaload (pc' := 129) (v := v48) kc_36_128 rfl A47 (by decide) rfl (xi_in (by omega) (by rw [hy47]; omega)) ev48 ?_
              refine xi_aload_n (pc' := 130) (x := 115) kc_36_129 rfl rfl ?_
              refine xi_getfield (pc' := 133) (v := .ref 142) kc_36_130 rfl rfl rfl A37 rfl ?_
              refine xi_aload_n (pc' := 134) (x := 115) kc_36_133 rfl rfl ?_
              refine xi_getfield (pc' := 137) (v := .ref 136) kc_36_134 rfl rfl rfl A37 rfl ?_
              refine xi_iload (pc' := 139) (x := x4) kc_36_137 rfl rfl ?_
              refine xi_iaload (pc' := 140) (v := v48) kc_36_139 rfl A47 (by decide) rfl (xi_in (by omega) (by rw [hy47]; omega)) ev48 ?_
              obtain ⟨y49, A49, hy49, ry49⟩ := xk_arr K23.1 xD_142
              obtain ⟨v50, ev50, bv50, dv50⟩ := xj_get hy49 ry49 (i := v48) (by omega) (by omega)
              refine xi_iaload (pc' := 141) (v := v50) kc_36_140 rfl A49 (by decide) rfl (xi_in (by omega) (by rw [hy49]; omega)) ev50 ?_
              refine xi_iload (pc' := 143) (x := v46) kc_36_141 rfl rfl ?_
              obtain ⟨v51, ev51⟩ : ∃ q : Int32, (v50 : Int32) + v46 = q := ⟨_, rfl⟩
              have rv51 := xc_rng v51
              refine xi_iadd (pc' := 144) (v := v51) kc_36_143 rfl ev51 ?_
              refine xi_static (mj := 39) (as := [.int v51]) (st1 := [.int v48, .ref 142]) (lv0 := [(0, .int v51)]) kc_36_144 rfl rfl (Nat.le_of_ble_eq_true rfl) rfl rfl (Nat.le_of_ble_eq_true rfl) (hJ _ _ _ _ (by decide)) (xm_le ml_39 rfl) rfl ?_
              refine mt_39_0 hJ hov1 hov2 (d := d + 2) (x0 := v51) K23.1 (fun r52 hh53 br52 K54 => ?_)
              have K55 := xk_tr K23 K54 rfl
              obtain ⟨u56, u57, u58, u59, u60, u61, u62, u63, u64, u65, u66, u67, u68, bu56, bu57, bu58, bu59, bu60, bu61, bu62, bu63, bu64, bu65, bu66, bu67, bu68, A69⟩ := xq_115 K55.1
              have e70 : u2 = u57 := xk_eqi (q := 1) K54 rfl A37 A69 rfl rfl
              subst e70
              show xw J ov (d + 4) 36 (147, [(5, .int v46), (0, .ref 115), (1, .int x1), (2, .int x2), (3, .int x3), (4, .int x4)], [.int r52, .int v48, .ref 142], hh53) _
              obtain ⟨y71, A71, hy71, ry71⟩ := xk_arr K55.1 xD_142
              obtain ⟨y72, s72, hy72, ry72⟩ := xj_set (v := r52) hy71 ry71 v48 (by first | omega | decide) (by first | omega | decide)
              refine xi_iastore (pc' := 148) (x' := y72) kc_36_147 rfl A71 rfl (xi_in (by omega) (by rw [hy71]; omega)) s72 (fun hh72 eh72 => ?_)
              have K73 := xk_pa K55 (xk_wa rfl) xD_142 hy72 ry72 eh72
              obtain ⟨v74, ev74⟩ : ∃ q : Int32, x4 + 1 = q := ⟨_, rfl⟩
              have zv74 : v74.toInt = (x4.toInt + 1) := by rw [← ev74]; exact (xz_add (X := x4.toInt) (Y := 1) rfl (by decide) (by omega) (by omega)).trans (by omega)
              refine xi_iinc (pc' := 151) (x := x4) (v := v74) (lv' := [(4, .int v74), (5, .int v46), (0, .ref 115), (1, .int x1), (2, .int x2), (3, .int x3)]) kc_36_148 rfl rfl ev74 rfl (xm_lt ml_36 rfl) ?_
              refine xi_goto (pc' := 28) kc_36_151 rfl ?_
              refine xw_lv (b := [(0, .ref 115), (1, .int x1), (2, .int x2), (3, .int x3), (4, .int v74)]) (lvS_cons (lvS_cons (lvS_cons (lvS_cons (lvS_cons (lvS_nil (show ([4, 5, 0, 1, 2, 3] : List Nat).Nodup by decide)) rfl) rfl) rfl) rfl) rfl) ?_
              exact i1 x1 x2 x3 v74 hh72 (by omega) (by omega) (by omega) (by omega) K73 (by omega)
            · refine xi_ift (pc' := 85) kc_36_67 rfl (xc_ne_t (X := v42.toInt) (Y := 0) rfl (by decide) (by omega)) ?_
              refine xi_aload_n (pc' := 86) (x := 115) kc_36_85 rfl rfl ?_
              refine xi_getfield (pc' := 89) (v := .ref 135) kc_36_86 rfl rfl rfl A37 rfl ?_
              refine xi_iload (pc' := 91) (x := x4) kc_36_89 rfl rfl ?_
              refine xi_iaload (pc' := 92) (v := v42) kc_36_91 rfl A41 (by decide) rfl (xi_in (by omega) (by rw [hy41]; omega)) ev42 ?_
              refine xi_iconst (pc' := 93) (v := 1) kc_36_92 rfl rfl ?_
              by_cases c75 : v42.toInt = 1
              · refine xi_cmt (pc' := 105) kc_36_93 rfl (xc_eq_t (X := v42.toInt) (Y := 1) rfl (by decide) (by omega)) ?_
                refine xi_aload_n (pc' := 106) (x := 115) kc_36_105 rfl rfl ?_
                refine xi_getfield (pc' := 109) (v := .ref 137) kc_36_106 rfl rfl rfl A37 rfl ?_
                refine xi_iload (pc' := 111) (x := x4) kc_36_109 rfl rfl ?_
                obtain ⟨y76, A76, hy76, ry76⟩ := xk_arr K23.1 xD_137
                obtain ⟨v77, ev77, bv77, dv77⟩ := xj_get hy76 ry76 (i := x4) (by omega) (by omega)
                refine xi_iaload (pc' := 112) (v := v77) kc_36_111 rfl A76 (by decide) rfl (xi_in (by omega) (by rw [hy76]; omega)) ev77 ?_
                refine xi_goto (pc' := 116) kc_36_112 rfl ?_
                refine xi_istore (pc' := 118) (lv' := [(5, .int v77), (0, .ref 115), (1, .int x1), (2, .int x2), (3, .int x3), (4, .int x4)]) kc_36_116 rfl rfl (xm_lt ml_36 rfl) ?_
                refine xi_aload_n (pc' := 119) (x := 115) kc_36_118 rfl rfl ?_
                refine xi_getfield (pc' := 122) (v := .ref 142) kc_36_119 rfl rfl rfl A37 rfl ?_
                refine xi_aload_n (pc' := 123) (x := 115) kc_36_122 rfl rfl ?_
                refine xi_getfield (pc' := 126) (v := .ref 136) kc_36_123 rfl rfl rfl A37 rfl ?_
                refine xi_iload (pc' := 128) (x := x4) kc_36_126 rfl rfl ?_
                obtain ⟨y78, A78, hy78, ry78⟩ := xk_arr K23.1 xD_136
                obtain ⟨v79, ev79, bv79, dv79⟩ := xj_get hy78 ry78 (i := x4) (by omega) (by omega)
                refine xi_iaload (pc' := 129) (v := v79) kc_36_128 rfl A78 (by decide) rfl (xi_in (by omega) (by rw [hy78]; omega)) ev79 ?_
                refine xi_aload_n (pc' := 130) (x := 115) kc_36_129 rfl rfl ?_
                refine xi_getfield (pc' := 133) (v := .ref 142) kc_36_130 rfl rfl rfl A37 rfl ?_
                refine xi_aload_n (pc' := 134) (x := 115) kc_36_133 rfl rfl ?_
                refine xi_getfield (pc' := 137) (v := .ref 136) kc_36_134 rfl rfl rfl A37 rfl ?_
                refine xi_iload (pc' := 139) (x := x4) kc_36_137 rfl rfl ?_
                refine xi_iaload (pc' := 140) (v := v79) kc_36_139 rfl A78 (by decide) rfl (xi_in (by omega) (by rw [hy78]; omega)) ev79 ?_
                obtain ⟨y80, A80, hy80, ry80⟩ := xk_arr K23.1 xD_142
                obtain ⟨v81, ev81, bv81, dv81⟩ := xj_get hy80 ry80 (i := v79) (by omega) (by omega)
                refine xi_iaload (pc' := 141) (v := v81) kc_36_140 rfl A80 (by decide) rfl (xi_in (by omega) (by rw [hy80]; omega)) ev81 ?_
                refine xi_iload (pc' := 143) (x := v77) kc_36_141 rfl rfl ?_
                obtain ⟨v82, ev82⟩ : ∃ q : Int32, (v81 : Int32) + v77 = q := ⟨_, rfl⟩
                have rv82 := xc_rng v82
                refine xi_iadd (pc' := 144) (v := v82) kc_36_143 rfl ev82 ?_
                refine xi_static (mj := 39) (as := [.int v82]) (st1 := [.int v79, .ref 142]) (lv0 := [(0, .int v82)]) kc_36_144 rfl rfl (Nat.le_of_ble_eq_true rfl) rfl rfl (Nat.le_of_ble_eq_true rfl) (hJ _ _ _ _ (by decide)) (xm_le ml_39 rfl) rfl ?_
                refine mt_39_0 hJ hov1 hov2 (d := d + 2) (x0 := v82) K23.1 (fun r83 hh84 br83 K85 => ?_)
                have K86 := xk_tr K23 K85 rfl
                obtain ⟨u87, u88, u89, u90, u91, u92, u93, u94, u95, u96, u97, u98, u99, bu87, bu88, bu89, bu90, bu91, bu92, bu93, bu94, bu95, bu96, bu97, bu98, bu99, A100⟩ := xq_115 K86.1
                have e101 : u2 = u88 := xk_eqi (q := 1) K85 rfl A37 A100 rfl rfl
                subst e101
                show xw J ov (d + 4) 36 (147, [(5, .int v77), (0, .ref 115), (1, .int x1), (2, .int x2), (3, .int x3), (4, .int x4)], [.int r83, .int v79, .ref 142], hh84) _
                obtain ⟨y102, A102, hy102, ry102⟩ := xk_arr K86.1 xD_142
                obtain ⟨y103, s103, hy103, ry103⟩ := xj_set (v := r83) hy102 ry102 v79 (by first | omega | decide) (by first | omega | decide)
                refine xi_iastore (pc' := 148) (x' := y103) kc_36_147 rfl A102 rfl (xi_in (by omega) (by rw [hy102]; omega)) s103 (fun hh103 eh103 => ?_)
                have K104 := xk_pa K86 (xk_wa rfl) xD_142 hy103 ry103 eh103
                obtain ⟨v105, ev105⟩ : ∃ q : Int32, x4 + 1 = q := ⟨_, rfl⟩
                have zv105 : v105.toInt = (x4.toInt + 1) := by rw [← ev105]; exact (xz_add (X := x4.toInt) (Y := 1) rfl (by decide) (by omega) (by omega)).trans (by omega)
                refine xi_iinc (pc' := 151) (x := x4) (v := v105) (lv' := [(4, .int v105), (5, .int v77), (0, .ref 115), (1, .int x1), (2, .int x2), (3, .int x3)]) kc_36_148 rfl rfl ev105 rfl (xm_lt ml_36 rfl) ?_
                refine xi_goto (pc' := 28) kc_36_151 rfl ?_
                refine xw_lv (b := [(0, .ref 115), (1, .int x1), (2, .int x2), (3, .int x3), (4, .int v105)]) (lvS_cons (lvS_cons (lvS_cons (lvS_cons (lvS_cons (lvS_nil (show ([4, 5, 0, 1, 2, 3] : List Nat).Nodup by decide)) rfl) rfl) rfl) rfl) rfl) ?_
                exact i1 x1 x2 x3 v105 hh103 (by omega) (by omega) (by omega) (by omega) K104 (by omega)
              · refine xi_cmf (pc' := 96) kc_36_93 rfl (xc_eq_f (X := v42.toInt) (Y := 1) rfl (by decide) (by omega)) ?_
                refine xi_iload_n (pc' := 97) (x := x3) kc_36_96 rfl rfl ?_
                refine xi_bipush (pc' := 99) (v := 24) kc_36_97 rfl rfl ?_
                obtain ⟨v106, ev106⟩ : ∃ q : Int32, x3 - x3 / 24 * 24 = q := ⟨_, rfl⟩
                have dv106 : v106.toInt = x3.toInt % 24 := by rw [← ev106]; exact xz_reme (X := x3.toInt) (Y := 24) rfl (by decide) (by omega) (by decide)
                have bv106 : 0 ≤ v106.toInt ∧ v106.toInt ≤ 23 := by omega
                refine xi_irem (pc' := 100) (v := v106) kc_36_99 rfl ev106 (by decide) ?_
                refine xi_bipush (pc' := 102) (v := 6) kc_36_100 rfl rfl ?_
                by_cases c107 : 6 ≤ v106.toInt
                · refine xi_cmt (pc' := 115) kc_36_102 rfl (xc_ge_t (X := v106.toInt) (Y := 6) rfl (by decide) (by omega)) ?_
                  refine xi_iconst (pc' := 116) (v := 0) kc_36_115 rfl rfl ?_
                  refine xi_istore (pc' := 118) (lv' := [(5, .int 0), (0, .ref 115), (1, .int x1), (2, .int x2), (3, .int x3), (4, .int x4)]) kc_36_116 rfl rfl (xm_lt ml_36 rfl) ?_
                  refine xi_aload_n (pc' := 119) (x := 115) kc_36_118 rfl rfl ?_
                  refine xi_getfield (pc' := 122) (v := .ref 142) kc_36_119 rfl rfl rfl A37 rfl ?_
                  refine xi_aload_n (pc' := 123) (x := 115) kc_36_122 rfl rfl ?_
                  refine xi_getfield (pc' := 126) (v := .ref 136) kc_36_123 rfl rfl rfl A37 rfl ?_
                  refine xi_iload (pc' := 128) (x := x4) kc_36_126 rfl rfl ?_
                  obtain ⟨y108, A108, hy108, ry108⟩ := xk_arr K23.1 xD_136
                  obtain ⟨v109, ev109, bv109, dv109⟩ := xj_get hy108 ry108 (i := x4) (by omega) (by omega)
                  refine xi_iaload (pc' := 129) (v := v109) kc_36_128 rfl A108 (by decide) rfl (xi_in (by omega) (by rw [hy108]; omega)) ev109 ?_
                  refine xi_aload_n (pc' := 130) (x := 115) kc_36_129 rfl rfl ?_
                  refine xi_getfield (pc' := 133) (v := .ref 142) kc_36_130 rfl rfl rfl A37 rfl ?_
                  refine xi_aload_n (pc' := 134) (x := 115) kc_36_133 rfl rfl ?_
                  refine xi_getfield (pc' := 137) (v := .ref 136) kc_36_134 rfl rfl rfl A37 rfl ?_
                  refine xi_iload (pc' := 139) (x := x4) kc_36_137 rfl rfl ?_
                  refine xi_iaload (pc' := 140) (v := v109) kc_36_139 rfl A108 (by decide) rfl (xi_in (by omega) (by rw [hy108]; omega)) ev109 ?_
                  obtain ⟨y110, A110, hy110, ry110⟩ := xk_arr K23.1 xD_142
                  obtain ⟨v111, ev111, bv111, dv111⟩ := xj_get hy110 ry110 (i := v109) (by omega) (by omega)
                  refine xi_iaload (pc' := 141) (v := v111) kc_36_140 rfl A110 (by decide) rfl (xi_in (by omega) (by rw [hy110]; omega)) ev111 ?_
                  refine xi_iload (pc' := 143) (x := 0) kc_36_141 rfl rfl ?_
                  obtain ⟨v112, ev112⟩ : ∃ q : Int32, v111 + 0 = q := ⟨_, rfl⟩
                  have zv112 : v112.toInt = v111.toInt := by rw [← ev112]; exact (xz_add (X := v111.toInt) (Y := 0) rfl (by decide) (by omega) (by omega)).trans (by omega)
                  refine xi_iadd (pc' := 144) (v := v112) kc_36_143 rfl ev112 ?_
                  refine xi_static (mj := 39) (as := [.int v112]) (st1 := [.int v109, .ref 142]) (lv0 := [(0, .int v112)]) kc_36_144 rfl rfl (Nat.le_of_ble_eq_true rfl) rfl rfl (Nat.le_of_ble_eq_true rfl) (hJ _ _ _ _ (by decide)) (xm_le ml_39 rfl) rfl ?_
                  refine mt_39_0 hJ hov1 hov2 (d := d + 2) (x0 := v112) K23.1 (fun r113 hh114 br113 K115 => ?_)
                  have K116 := xk_tr K23 K115 rfl
                  obtain ⟨u117, u118, u119, u120, u121, u122, u123, u124, u125, u126, u127, u128, u129, bu117, bu118, bu119, bu120, bu121, bu122, bu123, bu124, bu125, bu126, bu127, bu128, bu129, A130⟩ := xq_115 K116.1
                  have e131 : u2 = u118 := xk_eqi (q := 1) K115 rfl A37 A130 rfl rfl
                  subst e131
                  show xw J ov (d + 4) 36 (147, [(5, .int 0), (0, .ref 115), (1, .int x1), (2, .int x2), (3, .int x3), (4, .int x4)], [.int r113, .int v109, .ref 142], hh114) _
                  obtain ⟨y132, A132, hy132, ry132⟩ := xk_arr K116.1 xD_142
                  obtain ⟨y133, s133, hy133, ry133⟩ := xj_set (v := r113) hy132 ry132 v109 (by first | omega | decide) (by first | omega | decide)
                  refine xi_iastore (pc' := 148) (x' := y133) kc_36_147 rfl A132 rfl (xi_in (by omega) (by rw [hy132]; omega)) s133 (fun hh133 eh133 => ?_)
                  have K134 := xk_pa K116 (xk_wa rfl) xD_142 hy133 ry133 eh133
                  obtain ⟨v135, ev135⟩ : ∃ q : Int32, x4 + 1 = q := ⟨_, rfl⟩
                  have zv135 : v135.toInt = (x4.toInt + 1) := by rw [← ev135]; exact (xz_add (X := x4.toInt) (Y := 1) rfl (by decide) (by omega) (by omega)).trans (by omega)
                  refine xi_iinc (pc' := 151) (x := x4) (v := v135) (lv' := [(4, .int v135), (5, .int 0), (0, .ref 115), (1, .int x1), (2, .int x2), (3, .int x3)]) kc_36_148 rfl rfl ev135 rfl (xm_lt ml_36 rfl) ?_
                  refine xi_goto (pc' := 28) kc_36_151 rfl ?_
                  refine xw_lv (b := [(0, .ref 115), (1, .int x1), (2, .int x2), (3, .int x3), (4, .int v135)]) (lvS_cons (lvS_cons (lvS_cons (lvS_cons (lvS_cons (lvS_nil (show ([4, 5, 0, 1, 2, 3] : List Nat).Nodup by decide)) rfl) rfl) rfl) rfl) rfl) ?_
                  exact i1 x1 x2 x3 v135 hh133 (by omega) (by omega) (by omega) (by omega) K134 (by omega)
                · refine xi_cmf (pc' := 105) kc_36_102 rfl (xc_ge_f (X := v106.toInt) (Y := 6) rfl (by decide) (by omega)) ?_
                  refine xi_aload_n (pc' := 106) (x := 115) kc_36_105 rfl rfl ?_
                  refine xi_getfield (pc' := 109) (v := .ref 137) kc_36_106 rfl rfl rfl A37 rfl ?_
                  refine xi_iload (pc' := 111) (x := x4) kc_36_109 rfl rfl ?_
                  obtain ⟨y136, A136, hy136, ry136⟩ := xk_arr K23.1 xD_137
                  obtain ⟨v137, ev137, bv137, dv137⟩ := xj_get hy136 ry136 (i := x4) (by omega) (by omega)
                  refine xi_iaload (pc' := 112) (v := v137) kc_36_111 rfl A136 (by decide) rfl (xi_in (by omega) (by rw [hy136]; omega)) ev137 ?_
                  refine xi_goto (pc' := 116) kc_36_112 rfl ?_
                  refine xi_istore (pc' := 118) (lv' := [(5, .int v137), (0, .ref 115), (1, .int x1), (2, .int x2), (3, .int x3), (4, .int x4)]) kc_36_116 rfl rfl (xm_lt ml_36 rfl) ?_
                  refine xi_aload_n (pc' := 119) (x := 115) kc_36_118 rfl rfl ?_
                  refine xi_getfield (pc' := 122) (v := .ref 142) kc_36_119 rfl rfl rfl A37 rfl ?_
                  refine xi_aload_n (pc' := 123) (x := 115) kc_36_122 rfl rfl ?_
                  refine xi_getfield (pc' := 126) (v := .ref 136) kc_36_123 rfl rfl rfl A37 rfl ?_
                  refine xi_iload (pc' := 128) (x := x4) kc_36_126 rfl rfl ?_
                  obtain ⟨y138, A138, hy138, ry138⟩ := xk_arr K23.1 xD_136
                  obtain ⟨v139, ev139, bv139, dv139⟩ := xj_get hy138 ry138 (i := x4) (by omega) (by omega)
                  refine xi_iaload (pc' := 129) (v := v139) kc_36_128 rfl A138 (by decide) rfl (xi_in (by omega) (by rw [hy138]; omega)) ev139 ?_
                  refine xi_aload_n (pc' := 130) (x := 115) kc_36_129 rfl rfl ?_
                  refine xi_getfield (pc' := 133) (v := .ref 142) kc_36_130 rfl rfl rfl A37 rfl ?_
                  refine xi_aload_n (pc' := 134) (x := 115) kc_36_133 rfl rfl ?_
                  refine xi_getfield (pc' := 137) (v := .ref 136) kc_36_134 rfl rfl rfl A37 rfl ?_
                  refine xi_iload (pc' := 139) (x := x4) kc_36_137 rfl rfl ?_
                  refine xi_iaload (pc' := 140) (v := v139) kc_36_139 rfl A138 (by decide) rfl (xi_in (by omega) (by rw [hy138]; omega)) ev139 ?_
                  obtain ⟨y140, A140, hy140, ry140⟩ := xk_arr K23.1 xD_142
                  obtain ⟨v141, ev141, bv141, dv141⟩ := xj_get hy140 ry140 (i := v139) (by omega) (by omega)
                  refine xi_iaload (pc' := 141) (v := v141) kc_36_140 rfl A140 (by decide) rfl (xi_in (by omega) (by rw [hy140]; omega)) ev141 ?_
                  refine xi_iload (pc' := 143) (x := v137) kc_36_141 rfl rfl ?_
                  obtain ⟨v142, ev142⟩ : ∃ q : Int32, (v141 : Int32) + v137 = q := ⟨_, rfl⟩
                  have rv142 := xc_rng v142
                  refine xi_iadd (pc' := 144) (v := v142) kc_36_143 rfl ev142 ?_
                  refine xi_static (mj := 39) (as := [.int v142]) (st1 := [.int v139, .ref 142]) (lv0 := [(0, .int v142)]) kc_36_144 rfl rfl (Nat.le_of_ble_eq_true rfl) rfl rfl (Nat.le_of_ble_eq_true rfl) (hJ _ _ _ _ (by decide)) (xm_le ml_39 rfl) rfl ?_
                  refine mt_39_0 hJ hov1 hov2 (d := d + 2) (x0 := v142) K23.1 (fun r143 hh144 br143 K145 => ?_)
                  have K146 := xk_tr K23 K145 rfl
                  obtain ⟨u147, u148, u149, u150, u151, u152, u153, u154, u155, u156, u157, u158, u159, bu147, bu148, bu149, bu150, bu151, bu152, bu153, bu154, bu155, bu156, bu157, bu158, bu159, A160⟩ := xq_115 K146.1
                  have e161 : u2 = u148 := xk_eqi (q := 1) K145 rfl A37 A160 rfl rfl
                  subst e161
                  show xw J ov (d + 4) 36 (147, [(5, .int v137), (0, .ref 115), (1, .int x1), (2, .int x2), (3, .int x3), (4, .int x4)], [.int r143, .int v139, .ref 142], hh144) _
                  obtain ⟨y162, A162, hy162, ry162⟩ := xk_arr K146.1 xD_142
                  obtain ⟨y163, s163, hy163, ry163⟩ := xj_set (v := r143) hy162 ry162 v139 (by first | omega | decide) (by first | omega | decide)
                  refine xi_iastore (pc' := 148) (x' := y163) kc_36_147 rfl A162 rfl (xi_in (by omega) (by rw [hy162]; omega)) s163 (fun hh163 eh163 => ?_)
                  have K164 := xk_pa K146 (xk_wa rfl) xD_142 hy163 ry163 eh163
                  obtain ⟨v165, ev165⟩ : ∃ q : Int32, x4 + 1 = q := ⟨_, rfl⟩
                  have zv165 : v165.toInt = (x4.toInt + 1) := by rw [← ev165]; exact (xz_add (X := x4.toInt) (Y := 1) rfl (by decide) (by omega) (by omega)).trans (by omega)
                  refine xi_iinc (pc' := 151) (x := x4) (v := v165) (lv' := [(4, .int v165), (5, .int v137), (0, .ref 115), (1, .int x1), (2, .int x2), (3, .int x3)]) kc_36_148 rfl rfl ev165 rfl (xm_lt ml_36 rfl) ?_
                  refine xi_goto (pc' := 28) kc_36_151 rfl ?_
                  refine xw_lv (b := [(0, .ref 115), (1, .int x1), (2, .int x2), (3, .int x3), (4, .int v165)]) (lvS_cons (lvS_cons (lvS_cons (lvS_cons (lvS_cons (lvS_nil (show ([4, 5, 0, 1, 2, 3] : List Nat).Nodup by decide)) rfl) rfl) rfl) rfl) rfl) ?_
                  exact i1 x1 x2 x3 v165 hh163 (by omega) (by omega) (by omega) (by omega) K164 (by omega)
    · intro x4 h b4 K hm
      refine xi_iload (pc' := 159) (x := x4) kc_36_157 rfl rfl ?_
      refine xi_bipush (pc' := 161) (v := 12) kc_36_159 rfl rfl ?_
      by_cases c1 : 12 ≤ x4.toInt
      · refine xi_cmt (pc' := 198) kc_36_161 rfl (xc_ge_t (X := x4.toInt) (Y := 12) rfl (by decide) (by omega)) ?_
        refine xi_return kc_36_198 mr_36 ?_
        exact kk h K
      · refine xi_cmf (pc' := 164) kc_36_161 rfl (xc_ge_f (X := x4.toInt) (Y := 12) rfl (by decide) (by omega)) ?_
        refine xi_aload_n (pc' := 165) (x := 115) kc_36_164 rfl rfl ?_
        obtain ⟨u2, u3, u4, u5, u6, u7, u8, u9, u10, u11, u12, u13, u14, bu2, bu3, bu4, bu5, bu6, bu7, bu8, bu9, bu10, bu11, bu12, bu13, bu14, A15⟩ := xq_115 K.1
        refine xi_getfield (pc' := 168) (v := .ref 142) kc_36_165 rfl rfl rfl A15 rfl ?_
        refine xi_iload (pc' := 170) (x := x4) kc_36_168 rfl rfl ?_
        refine xi_dup2 (pc' := 171) kc_36_170 rfl ⟨rfl, rfl⟩ ?_
        obtain ⟨y16, A16, hy16, ry16⟩ := xk_arr K.1 xD_142
        obtain ⟨v17, ev17, bv17, dv17⟩ := xj_get hy16 ry16 (i := x4) (by omega) (by omega)
        refine xi_iaload (pc' := 172) (v := v17) kc_36_171 rfl A16 (by decide) rfl (xi_in (by omega) (by rw [hy16]; omega)) ev17 ?_
        refine xi_aload_n (pc' := 173) (x := 115) kc_36_172 rfl rfl ?_
        refine xi_getfield (pc' := 176) (v := .ref 142) kc_36_173 rfl rfl rfl A15 rfl ?_
        refine xi_iload (pc' := 178) (x := x4) kc_36_176 rfl rfl ?_
        refine xi_iaload (pc' := 179) (v := v17) kc_36_178 rfl A16 (by decide) rfl (xi_in (by omega) (by rw [hy16]; omega)) ev17 ?_
        refine xi_aload_n (pc' := 180) (x := 115) kc_36_179 rfl rfl ?_
        refine xi_getfield (pc' := 183) (v := .int u4) kc_36_180 rfl rfl rfl A15 rfl ?_
        obtain ⟨v18, ev18⟩ : ∃ q : Int32, (v17 : Int32) * u4 = q := ⟨_, rfl⟩
        have rv18 := xc_rng v18
        refine xi_imul (pc' := 184) (v := v18) kc_36_183 rfl ev18 ?_
        refine xi_bipush (pc' := 186) (v := 99) kc_36_184 rfl rfl ?_
        obtain ⟨v19, ev19⟩ : ∃ q : Int32, (v18 : Int32) + 99 = q := ⟨_, rfl⟩
        have rv19 := xc_rng v19
        refine xi_iadd (pc' := 187) (v := v19) kc_36_186 rfl ev19 ?_
        refine xi_bipush (pc' := 189) (v := 100) kc_36_187 rfl rfl ?_
        obtain ⟨v20, ev20⟩ : ∃ q : Int32, v19 / 100 = q := ⟨_, rfl⟩
        have dv20 : 100 * v20.toInt ≤ v19.toInt + 99 ∧ v19.toInt ≤ 100 * v20.toInt + 99 := by rw [← ev20]; exact xz_div (X := v19.toInt) (Y := 100) rfl (by decide) (by decide)
        have bv20 : -21474837 ≤ v20.toInt ∧ v20.toInt ≤ 21474837 := by omega
        refine xi_idiv (pc' := 190) (v := v20) kc_36_189 rfl ev20 (by decide) ?_
        obtain ⟨v21, ev21⟩ : ∃ q : Int32, (v17 : Int32) - v20 = q := ⟨_, rfl⟩
        have rv21 := xc_rng v21
        refine xi_isub (pc' := 191) (v := v21) kc_36_190 rfl ev21 ?_
        obtain ⟨y22, s22, hy22, ry22⟩ := xj_set (v := v21) hy16 ry16 x4 (by first | omega | decide) (by first | omega | decide)
        refine xi_iastore (pc' := 192) (x' := y22) kc_36_191 rfl A16 rfl (xi_in (by omega) (by rw [hy16]; omega)) s22 (fun hh22 eh22 => ?_)
        have K23 := xk_pa K (xk_wa rfl) xD_142 hy22 ry22 eh22
        obtain ⟨v24, ev24⟩ : ∃ q : Int32, x4 + 1 = q := ⟨_, rfl⟩
        have zv24 : v24.toInt = (x4.toInt + 1) := by rw [← ev24]; exact (xz_add (X := x4.toInt) (Y := 1) rfl (by decide) (by omega) (by omega)).trans (by omega)
        refine xi_iinc (pc' := 195) (x := x4) (v := v24) (lv' := [(4, .int v24), (0, .ref 115)]) kc_36_192 rfl rfl ev24 rfl (xm_lt ml_36 rfl) ?_
        refine xi_goto (pc' := 157) kc_36_195 rfl ?_
        refine xw_lv (b := [(0, .ref 115), (4, .int v24)]) (lvS_cons (lvS_cons (lvS_nil (show ([4, 0] : List Nat).Nodup by decide)) rfl) rfl) ?_
        exact i2 v24 hh22 (by omega) K23 (by omega)
set_option maxHeartbeats 4000000 in
theorem mt_36_0 {J : xe_J} {ov : List (List Int32)} (hJ : ∀ d mj as h, mj ≠ xe_loff → J d mj as h = none) (hov1 : ov[1]? = some [10, 0, 0, 0, 0, 0]) (hov2 : ov[2]? = some [99, 30, 50, 50, 1, 99999]) {d : Nat} {Q : Option Value → xe_H → Prop} {h : xe_H} {x1 : Int32} {x2 : Int32} {x3 : Int32} (T : xt h) (b1 : (0 ≤ x1.toInt ∧ x1.toInt ≤ 63)) (b2 : (0 ≤ x2.toInt ∧ x2.toInt ≤ 1)) (b3 : (0 ≤ x3.toInt ∧ x3.toInt ≤ 599)) (kk : (∀ h' : xe_H, xk [(0, 9), (115, 1), (83, 0), (6, 0), (123, 0), (9, 0), (124, 0), (7, 0), (10, 0), (5, 0), (8, 0)] h h' → Q none h')) : xw J ov (d + 4) 36 (0, [(0, .ref 115), (1, .int x1), (2, .int x2), (3, .int x3)], [], h) Q := by
  have K : xk [(0, 9), (115, 1), (83, 0), (6, 0), (123, 0), (9, 0), (124, 0), (7, 0), (10, 0), (5, 0), (8, 0)] h h := xk_re T
  refine xi_iconst (pc' := 1) (v := 0) kc_36_0 rfl rfl ?_
  refine xi_istore (pc' := 3) (lv' := [(4, .int 0), (0, .ref 115), (1, .int x1), (2, .int x2), (3, .int x3)]) kc_36_1 rfl rfl (xm_lt ml_36 rfl) ?_
  have zc0 : (0 : Int32).toInt = 0 := by decide
  refine xw_lv (b := [(0, .ref 115), (1, .int x1), (2, .int x2), (3, .int x3), (4, .int 0)]) (lvS_cons (lvS_cons (lvS_cons (lvS_cons (lvS_cons (lvS_nil (show ([4, 0, 1, 2, 3] : List Nat).Nodup by decide)) rfl) rfl) rfl) rfl) rfl) ?_
  exact (lp_36_0 hJ hov1 hov2 (d := d) (hb := h) (fun h9 K9 => kk h9 (xk_tr K K9 rfl)) 31).1 x1 x2 x3 0 h (by omega) (by omega) (by omega) (by omega) (xk_re K.1) (by omega)
set_option maxHeartbeats 4000000 in
theorem lp_35_0 {J : xe_J} {ov : List (List Int32)} (hJ : ∀ d mj as h, mj ≠ xe_loff → J d mj as h = none) (hov1 : ov[1]? = some [10, 0, 0, 0, 0, 0]) (hov2 : ov[2]? = some [99, 30, 50, 50, 1, 99999]) {d : Nat} {Q : Option Value → xe_H → Prop} {hb : xe_H} {u0 : Int32} (bgu0 : (0 ≤ u0.toInt ∧ u0.toInt ≤ 599)) (kk : (∀ h' : xe_H, (∀ v : Int32, xl h' (115, 1) = some (.inl (.int v)) → v.toInt + (-1) * u0.toInt + (-1) = 0) → xk [(0, 9), (83, 0), (6, 0), (123, 0), (9, 0), (124, 0), (7, 0), (10, 0), (5, 0), (8, 0)] hb h' → Q none h')) : ∀ m : Nat, (∀ (x1 : Int32) (h : xe_H), (0 ≤ x1.toInt ∧ x1.toInt ≤ 20) → (∀ v : Int32, xl h (115, 1) = some (.inl (.int v)) → v.toInt + (-1) * u0.toInt + 0 = 0) → xk [(0, 9), (83, 0), (6, 0), (123, 0), (9, 0), (124, 0), (7, 0), (10, 0), (5, 0), (8, 0)] hb h → (-1) * x1.toInt + 81 < (m : Int) → xw J ov (d + 5) 35 (2, [(0, .ref 115), (1, .int x1)], [], h) Q) ∧ (∀ (x1 : Int32) (h : xe_H), (0 ≤ x1.toInt ∧ x1.toInt ≤ 6) → (∀ v : Int32, xl h (115, 1) = some (.inl (.int v)) → v.toInt + (-1) * u0.toInt + 0 = 0) → xk [(0, 9), (83, 0), (6, 0), (123, 0), (9, 0), (124, 0), (7, 0), (10, 0), (5, 0), (8, 0)] hb h → (-1) * x1.toInt + 60 < (m : Int) → xw J ov (d + 5) 35 (93, [(0, .ref 115), (1, .int x1)], [], h) Q) ∧ (∀ (x1 : Int32) (h : xe_H), (0 ≤ x1.toInt ∧ x1.toInt ≤ 12) → (∀ v : Int32, xl h (115, 1) = some (.inl (.int v)) → v.toInt + (-1) * u0.toInt + 0 = 0) → xk [(0, 9), (83, 0), (6, 0), (123, 0), (9, 0), (124, 0), (7, 0), (10, 0), (5, 0), (8, 0)] hb h → (-1) * x1.toInt + 53 < (m : Int) → xw J ov (d + 5) 35 (119, [(0, .ref 115), (1, .int x1)], [], h) Q) ∧ (∀ (x1 : Int32) (h : xe_H), (0 ≤ x1.toInt ∧ x1.toInt ≤ 6) → (∀ v : Int32, xl h (115, 1) = some (.inl (.int v)) → v.toInt + (-1) * u0.toInt + 0 = 0) → xk [(0, 9), (83, 0), (6, 0), (123, 0), (9, 0), (124, 0), (7, 0), (10, 0), (5, 0), (8, 0)] hb h → (-1) * x1.toInt + 40 < (m : Int) → xw J ov (d + 5) 35 (179, [(0, .ref 115), (1, .int x1)], [], h) Q) ∧ (∀ (x1 : Int32) (h : xe_H), (0 ≤ x1.toInt ∧ x1.toInt ≤ 12) → (∀ v : Int32, xl h (115, 1) = some (.inl (.int v)) → v.toInt + (-1) * u0.toInt + 0 = 0) → xk [(0, 9), (83, 0), (6, 0), (123, 0), (9, 0), (124, 0), (7, 0), (10, 0), (5, 0), (8, 0)] hb h → (-1) * x1.toInt + 33 < (m : Int) → xw J ov (d + 5) 35 (205, [(0, .ref 115), (1, .int x1)], [], h) Q) ∧ (∀ (x1 : Int32) (h : xe_H), (0 ≤ x1.toInt ∧ x1.toInt ≤ 20) → (∀ v : Int32, xl h (115, 1) = some (.inl (.int v)) → v.toInt + (-1) * u0.toInt + (-1) = 0) → xk [(0, 9), (83, 0), (6, 0), (123, 0), (9, 0), (124, 0), (7, 0), (10, 0), (5, 0), (8, 0)] hb h → (-1) * x1.toInt + 20 < (m : Int) → xw J ov (d + 5) 35 (286, [(0, .ref 115), (1, .int x1)], [], h) Q) := by
  intro m
  induction m with
  | zero =>
    refine ⟨?_, ?_, ?_, ?_, ?_, ?_⟩
    · intro x1 h b1 gh0 K hm; exfalso; omega
    · intro x1 h b1 gh0 K hm; exfalso; omega
    · intro x1 h b1 gh0 K hm; exfalso; omega
    · intro x1 h b1 gh0 K hm; exfalso; omega
    · intro x1 h b1 gh0 K hm; exfalso; omega
    · intro x1 h b1 gh0 K hm; exfalso; omega
  | succ m ih =>
    obtain ⟨i0, i1, i2, i3, i4, i5⟩ := ih
    refine ⟨?_, ?_, ?_, ?_, ?_, ?_⟩
    · intro x1 h b1 gh0 K hm
      obtain ⟨u1, u2, u3, u4, u5, u6, u7, u8, u9, u10, u11, u12, u13, bu1, bu2, bu3, bu4, bu5, bu6, bu7, bu8, bu9, bu10, bu11, bu12, bu13, A14⟩ := xq_115 K.1
      have gh0' := gh0 _ (xl_of A14 rfl)
      refine xi_iload_n (pc' := 3) (x := x1) kc_35_2 rfl rfl ?_
      refine xi_aload_n (pc' := 4) (x := 115) kc_35_3 rfl rfl ?_
      refine xi_getfield (pc' := 7) (v := .int u8) kc_35_4 rfl rfl rfl A14 rfl ?_
      by_cases c15 : u8.toInt ≤ x1.toInt
      · refine xi_cmt (pc' := 91) kc_35_7 rfl (xc_ge_t (X := x1.toInt) (Y := u8.toInt) rfl rfl (by omega)) ?_
        refine xi_iconst (pc' := 92) (v := 0) kc_35_91 rfl rfl ?_
        refine xi_istore_n (pc' := 93) (lv' := [(1, .int 0), (0, .ref 115)]) kc_35_92 rfl rfl (xm_lt ml_35 rfl) ?_
        have zc0 : (0 : Int32).toInt = 0 := by decide
        refine xw_lv (b := [(0, .ref 115), (1, .int 0)]) (lvS_cons (lvS_cons (lvS_nil (show ([1, 0] : List Nat).Nodup by decide)) rfl) rfl) ?_
        exact i1 0 h (by omega) (fun v e => by have e2 := xl_val (u := u2) A14 rfl e; subst e2; omega) K (by omega)
      · refine xi_cmf (pc' := 10) kc_35_7 rfl (xc_ge_f (X := x1.toInt) (Y := u8.toInt) rfl rfl (by omega)) ?_
        refine xi_aload_n (pc' := 11) (x := 115) kc_35_10 rfl rfl ?_
        refine xi_getfield (pc' := 14) (v := .ref 146) kc_35_11 rfl rfl rfl A14 rfl ?_
        refine xi_iload_n (pc' := 15) (x := x1) kc_35_14 rfl rfl ?_
        obtain ⟨y16, A16, hy16, ry16⟩ := xk_arr K.1 xD_146
        obtain ⟨v17, ev17, bv17, dv17⟩ := xj_get hy16 ry16 (i := x1) (by omega) (by omega)
        refine xi_iaload (pc' := 16) (v := v17) kc_35_15 rfl A16 (by decide) rfl (xi_in (by omega) (by rw [hy16]; omega)) ev17 ?_
        refine xi_aload_n (pc' := 17) (x := 115) kc_35_16 rfl rfl ?_
        refine xi_getfield (pc' := 20) (v := .int u2) kc_35_17 rfl rfl rfl A14 rfl ?_
        by_cases c18 : v17.toInt = u2.toInt
        · refine xi_cmf (pc' := 23) kc_35_20 rfl (xc_ne_f (X := v17.toInt) (Y := u2.toInt) rfl rfl (by omega)) ?_
          refine xi_aload_n (pc' := 24) (x := 115) kc_35_23 rfl rfl ?_
          refine xi_getfield (pc' := 27) (v := .ref 144) kc_35_24 rfl rfl rfl A14 rfl ?_
          refine xi_iload_n (pc' := 28) (x := x1) kc_35_27 rfl rfl ?_
          obtain ⟨y19, A19, hy19, ry19⟩ := xk_arr K.1 xD_144
          obtain ⟨v20, ev20, bv20, dv20⟩ := xj_get hy19 ry19 (i := x1) (by omega) (by omega)
          refine xi_iaload (pc' := 29) (v := v20) kc_35_28 rfl A19 (by decide) rfl (xi_in (by omega) (by rw [hy19]; omega)) ev20 ?_
          by_cases c21 : v20.toInt = 0
          · refine xi_iff (pc' := 32) kc_35_29 rfl (xc_ne_f (X := v20.toInt) (Y := 0) rfl (by decide) (by omega)) ?_
            refine xi_iconst (pc' := 33) (v := 4) kc_35_32 rfl rfl ?_
            refine xi_goto (pc' := 37) kc_35_33 rfl ?_
            refine xi_istore_n (pc' := 38) (lv' := [(2, .int 4), (0, .ref 115), (1, .int x1)]) kc_35_37 rfl rfl (xm_lt ml_35 rfl) ?_
            refine xi_aload_n (pc' := 39) (x := 115) kc_35_38 rfl rfl ?_
            refine xi_getfield (pc' := 42) (v := .ref 148) kc_35_39 rfl rfl rfl A14 rfl ?_
            refine xi_iload_n (pc' := 43) (x := x1) kc_35_42 rfl rfl ?_
            refine xi_aload_n (pc' := 44) (x := 115) kc_35_43 rfl rfl ?_
            refine xi_aload_n (pc' := 45) (x := 115) kc_35_44 rfl rfl ?_
            refine xi_getfield (pc' := 48) (v := .ref 143) kc_35_45 rfl rfl rfl A14 rfl ?_
            refine xi_iload_n (pc' := 49) (x := x1) kc_35_48 rfl rfl ?_
            obtain ⟨y22, A22, hy22, ry22⟩ := xk_arr K.1 xD_143
            obtain ⟨v23, ev23, bv23, dv23⟩ := xj_get hy22 ry22 (i := x1) (by omega) (by omega)
            refine xi_iaload (pc' := 50) (v := v23) kc_35_49 rfl A22 (by decide) rfl (xi_in (by omega) (by rw [hy22]; omega)) ev23 ?_
            refine xi_iload_n (pc' := 51) (x := 4) kc_35_50 rfl rfl ?_
            refine xi_virtual (mj := 13) (as := [.int v23, .int 4]) (st1 := [.int x1, .ref 148]) (lv0 := [(0, .ref 115), (1, .int v23), (2, .int 4)]) kc_35_51 rfl rfl rfl rfl rfl A14 (Nat.le_of_ble_eq_true rfl) (hJ _ _ _ _ (by decide)) (xm_le ml_13 rfl) rfl ?_
            refine xi_iload_n (pc' := 1) (x := 4) kc_13_0 rfl rfl ?_
            refine xi_tsi (pc' := 64) (z := 4) kc_13_1 (rfl) rfl (by decide) ?_
            refine xi_aload_n (pc' := 65) (x := 115) kc_13_64 rfl rfl ?_
            refine xi_getfield (pc' := 68) (v := .ref 120) kc_13_65 rfl rfl rfl A14 rfl ?_
            refine xi_iload_n (pc' := 69) (x := v23) kc_13_68 rfl rfl ?_
            obtain ⟨y24, A24, hy24, ry24⟩ := xk_arr K.1 xD_120
            obtain ⟨v25, ev25, bv25, dv25⟩ := xj_get hy24 ry24 (i := v23) (by omega) (by omega)
            refine xi_iaload (pc' := 70) (v := v25) kc_13_69 rfl A24 (by decide) rfl (xi_in (by omega) (by rw [hy24]; omega)) ev25 ?_
            refine xi_ireturn kc_13_70 mr_13 rfl ?_
            show xw J ov (d + 5) 35 (54, [(2, .int 4), (0, .ref 115), (1, .int x1)], [.int v25, .int x1, .ref 148], h) _
            obtain ⟨y26, A26, hy26, ry26⟩ := xk_arr K.1 xD_148
            obtain ⟨y27, s27, hy27, ry27⟩ := xj_set (v := v25) hy26 ry26 x1 (by first | omega | decide) (by first | omega | decide)
            refine xi_iastore (pc' := 55) (x' := y27) kc_35_54 rfl A26 rfl (xi_in (by omega) (by rw [hy26]; omega)) s27 (fun hh27 eh27 => ?_)
            have K28 := xk_pa K (xk_wa rfl) xD_148 hy27 ry27 eh27
            refine xi_aload_n (pc' := 56) (x := 115) kc_35_55 rfl rfl ?_
            refine xi_aload_n (pc' := 57) (x := 115) kc_35_56 rfl rfl ?_
            have A29 := ((eh27.2.1 115 (by decide)).trans A14)
            refine xi_getfield (pc' := 60) (v := .ref 143) kc_35_57 rfl rfl rfl A29 rfl ?_
            refine xi_iload_n (pc' := 61) (x := x1) kc_35_60 rfl rfl ?_
            have A30 := ((eh27.2.1 143 (by decide)).trans A22)
            refine xi_iaload (pc' := 62) (v := v23) kc_35_61 rfl A30 (by decide) rfl (xi_in (by omega) (by rw [hy22]; omega)) ev23 ?_
            refine xi_iload_n (pc' := 63) (x := 4) kc_35_62 rfl rfl ?_
            refine xi_aload_n (pc' := 64) (x := 115) kc_35_63 rfl rfl ?_
            refine xi_getfield (pc' := 67) (v := .ref 144) kc_35_64 rfl rfl rfl A29 rfl ?_
            refine xi_iload_n (pc' := 68) (x := x1) kc_35_67 rfl rfl ?_
            have A31 := ((eh27.2.1 144 (by decide)).trans A19)
            refine xi_iaload (pc' := 69) (v := v20) kc_35_68 rfl A31 (by decide) rfl (xi_in (by omega) (by rw [hy19]; omega)) ev20 ?_
            refine xi_iff (pc' := 72) kc_35_69 rfl (xc_ne_f (X := v20.toInt) (Y := 0) rfl (by decide) (by omega)) ?_
            refine xi_iconst (pc' := 73) (v := 1) kc_35_72 rfl rfl ?_
            refine xi_goto (pc' := 82) kc_35_73 rfl ?_
            refine xi_virtual (mj := 14) (as := [.int v23, .int 4, .int 1]) (st1 := []) (lv0 := [(0, .ref 115), (1, .int v23), (2, .int 4), (3, .int 1)]) kc_35_82 rfl rfl rfl rfl rfl A29 (Nat.le_of_ble_eq_true rfl) (hJ _ _ _ _ (by decide)) (xm_le ml_14 rfl) rfl ?_
            have zc1 : (1 : Int32).toInt = 1 := by decide
            have zc4 : (4 : Int32).toInt = 4 := by decide
            refine mt_14_0 hJ hov1 hov2 (d := d + 3) (x1 := v23) (x2 := 4) (x3 := 1) K28.1 (by first | omega | decide) (by first | omega | decide) (fun hh33 K34 => ?_)
            have K35 := xk_tr K28 K34 rfl
            obtain ⟨u36, u37, u38, u39, u40, u41, u42, u43, u44, u45, u46, u47, u48, bu36, bu37, bu38, bu39, bu40, bu41, bu42, bu43, bu44, bu45, bu46, bu47, bu48, A49⟩ := xq_115 K35.1
            have e50 : u2 = u37 := xk_eqi (q := 1) K34 rfl A29 A49 rfl rfl
            subst e50
            show xw J ov (d + 5) 35 (85, [(2, .int 4), (0, .ref 115), (1, .int x1)], [], hh33) _
            obtain ⟨v51, ev51⟩ : ∃ q : Int32, x1 + 1 = q := ⟨_, rfl⟩
            have zv51 : v51.toInt = (x1.toInt + 1) := by rw [← ev51]; exact (xz_add (X := x1.toInt) (Y := 1) rfl (by decide) (by omega) (by omega)).trans (by omega)
            refine xi_iinc (pc' := 88) (x := x1) (v := v51) (lv' := [(1, .int v51), (2, .int 4), (0, .ref 115)]) kc_35_85 rfl rfl ev51 rfl (xm_lt ml_35 rfl) ?_
            refine xi_goto (pc' := 2) kc_35_88 rfl ?_
            refine xw_lv (b := [(0, .ref 115), (1, .int v51)]) (lvS_cons (lvS_cons (lvS_nil (show ([1, 2, 0] : List Nat).Nodup by decide)) rfl) rfl) ?_
            exact i0 v51 hh33 (by omega) (fun v e => by have e2 := xl_val (u := u2) A49 rfl e; subst e2; omega) K35 (by omega)
          · refine xi_ift (pc' := 36) kc_35_29 rfl (xc_ne_t (X := v20.toInt) (Y := 0) rfl (by decide) (by omega)) ?_
            refine xi_iconst (pc' := 37) (v := 2) kc_35_36 rfl rfl ?_
            refine xi_istore_n (pc' := 38) (lv' := [(2, .int 2), (0, .ref 115), (1, .int x1)]) kc_35_37 rfl rfl (xm_lt ml_35 rfl) ?_
            refine xi_aload_n (pc' := 39) (x := 115) kc_35_38 rfl rfl ?_
            refine xi_getfield (pc' := 42) (v := .ref 148) kc_35_39 rfl rfl rfl A14 rfl ?_
            refine xi_iload_n (pc' := 43) (x := x1) kc_35_42 rfl rfl ?_
            refine xi_aload_n (pc' := 44) (x := 115) kc_35_43 rfl rfl ?_
            refine xi_aload_n (pc' := 45) (x := 115) kc_35_44 rfl rfl ?_
            refine xi_getfield (pc' := 48) (v := .ref 143) kc_35_45 rfl rfl rfl A14 rfl ?_
            refine xi_iload_n (pc' := 49) (x := x1) kc_35_48 rfl rfl ?_
            obtain ⟨y52, A52, hy52, ry52⟩ := xk_arr K.1 xD_143
            obtain ⟨v53, ev53, bv53, dv53⟩ := xj_get hy52 ry52 (i := x1) (by omega) (by omega)
            refine xi_iaload (pc' := 50) (v := v53) kc_35_49 rfl A52 (by decide) rfl (xi_in (by omega) (by rw [hy52]; omega)) ev53 ?_
            refine xi_iload_n (pc' := 51) (x := 2) kc_35_50 rfl rfl ?_
            refine xi_virtual (mj := 13) (as := [.int v53, .int 2]) (st1 := [.int x1, .ref 148]) (lv0 := [(0, .ref 115), (1, .int v53), (2, .int 2)]) kc_35_51 rfl rfl rfl rfl rfl A14 (Nat.le_of_ble_eq_true rfl) (hJ _ _ _ _ (by decide)) (xm_le ml_13 rfl) rfl ?_
            refine xi_iload_n (pc' := 1) (x := 2) kc_13_0 rfl rfl ?_
            refine xi_tsi (pc' := 50) (z := 2) kc_13_1 (rfl) rfl (by decide) ?_
            refine xi_aload_n (pc' := 51) (x := 115) kc_13_50 rfl rfl ?_
            refine xi_getfield (pc' := 54) (v := .ref 118) kc_13_51 rfl rfl rfl A14 rfl ?_
            refine xi_iload_n (pc' := 55) (x := v53) kc_13_54 rfl rfl ?_
            obtain ⟨y54, A54, hy54, ry54⟩ := xk_arr K.1 xD_118
            obtain ⟨v55, ev55, bv55, dv55⟩ := xj_get hy54 ry54 (i := v53) (by omega) (by omega)
            refine xi_iaload (pc' := 56) (v := v55) kc_13_55 rfl A54 (by decide) rfl (xi_in (by omega) (by rw [hy54]; omega)) ev55 ?_
            refine xi_ireturn kc_13_56 mr_13 rfl ?_
            show xw J ov (d + 5) 35 (54, [(2, .int 2), (0, .ref 115), (1, .int x1)], [.int v55, .int x1, .ref 148], h) _
            obtain ⟨y56, A56, hy56, ry56⟩ := xk_arr K.1 xD_148
            obtain ⟨y57, s57, hy57, ry57⟩ := xj_set (v := v55) hy56 ry56 x1 (by first | omega | decide) (by first | omega | decide)
            refine xi_iastore (pc' := 55) (x' := y57) kc_35_54 rfl A56 rfl (xi_in (by omega) (by rw [hy56]; omega)) s57 (fun hh57 eh57 => ?_)
            have K58 := xk_pa K (xk_wa rfl) xD_148 hy57 ry57 eh57
            refine xi_aload_n (pc' := 56) (x := 115) kc_35_55 rfl rfl ?_
            refine xi_aload_n (pc' := 57) (x := 115) kc_35_56 rfl rfl ?_
            have A59 := ((eh57.2.1 115 (by decide)).trans A14)
            refine xi_getfield (pc' := 60) (v := .ref 143) kc_35_57 rfl rfl rfl A59 rfl ?_
            refine xi_iload_n (pc' := 61) (x := x1) kc_35_60 rfl rfl ?_
            have A60 := ((eh57.2.1 143 (by decide)).trans A52)
            refine xi_iaload (pc' := 62) (v := v53) kc_35_61 rfl A60 (by decide) rfl (xi_in (by omega) (by rw [hy52]; omega)) ev53 ?_
            refine xi_iload_n (pc' := 63) (x := 2) kc_35_62 rfl rfl ?_
            refine xi_aload_n (pc' := 64) (x := 115) kc_35_63 rfl rfl ?_
            refine xi_getfield (pc' := 67) (v := .ref 144) kc_35_64 rfl rfl rfl A59 rfl ?_
            refine xi_iload_n (pc' := 68) (x := x1) kc_35_67 rfl rfl ?_
            have A61 := ((eh57.2.1 144 (by decide)).trans A19)
            refine xi_iaload (pc' := 69) (v := v20) kc_35_68 rfl A61 (by decide) rfl (xi_in (by omega) (by rw [hy19]; omega)) ev20 ?_
            refine xi_ift (pc' := 76) kc_35_69 rfl (xc_ne_t (X := v20.toInt) (Y := 0) rfl (by decide) (by omega)) ?_
            refine xi_aload_n (pc' := 77) (x := 115) kc_35_76 rfl rfl ?_
            refine xi_getfield (pc' := 80) (v := .ref 145) kc_35_77 rfl rfl rfl A59 rfl ?_
            refine xi_iload_n (pc' := 81) (x := x1) kc_35_80 rfl rfl ?_
            obtain ⟨y62, A62, hy62, ry62⟩ := xk_arr K58.1 xD_145
            obtain ⟨v63, ev63, bv63, dv63⟩ := xj_get hy62 ry62 (i := x1) (by omega) (by omega)
            refine xi_iaload (pc' := 82) (v := v63) kc_35_81 rfl A62 (by decide) rfl (xi_in (by omega) (by rw [hy62]; omega)) ev63 ?_
            refine xi_virtual (mj := 14) (as := [.int v53, .int 2, .int v63]) (st1 := []) (lv0 := [(0, .ref 115), (1, .int v53), (2, .int 2), (3, .int v63)]) kc_35_82 rfl rfl rfl rfl rfl A59 (Nat.le_of_ble_eq_true rfl) (hJ _ _ _ _ (by decide)) (xm_le ml_14 rfl) rfl ?_
            have zc2 : (2 : Int32).toInt = 2 := by decide
            refine mt_14_0 hJ hov1 hov2 (d := d + 3) (x1 := v53) (x2 := 2) (x3 := v63) K58.1 (by first | omega | decide) (by first | omega | decide) (fun hh65 K66 => ?_)
            have K67 := xk_tr K58 K66 rfl
            obtain ⟨u68, u69, u70, u71, u72, u73, u74, u75, u76, u77, u78, u79, u80, bu68, bu69, bu70, bu71, bu72, bu73, bu74, bu75, bu76, bu77, bu78, bu79, bu80, A81⟩ := xq_115 K67.1
            have e82 : u2 = u69 := xk_eqi (q := 1) K66 rfl A59 A81 rfl rfl
            subst e82
            show xw J ov (d + 5) 35 (85, [(2, .int 2), (0, .ref 115), (1, .int x1)], [], hh65) _
            obtain ⟨v83, ev83⟩ : ∃ q : Int32, x1 + 1 = q := ⟨_, rfl⟩
            have zv83 : v83.toInt = (x1.toInt + 1) := by rw [← ev83]; exact (xz_add (X := x1.toInt) (Y := 1) rfl (by decide) (by omega) (by omega)).trans (by omega)
            refine xi_iinc (pc' := 88) (x := x1) (v := v83) (lv' := [(1, .int v83), (2, .int 2), (0, .ref 115)]) kc_35_85 rfl rfl ev83 rfl (xm_lt ml_35 rfl) ?_
            refine xi_goto (pc' := 2) kc_35_88 rfl ?_
            refine xw_lv (b := [(0, .ref 115), (1, .int v83)]) (lvS_cons (lvS_cons (lvS_nil (show ([1, 2, 0] : List Nat).Nodup by decide)) rfl) rfl) ?_
            exact i0 v83 hh65 (by omega) (fun v e => by have e2 := xl_val (u := u2) A81 rfl e; subst e2; omega) K67 (by omega)
        · refine xi_cmt (pc' := 85) kc_35_20 rfl (xc_ne_t (X := v17.toInt) (Y := u2.toInt) rfl rfl (by omega)) ?_
          obtain ⟨v84, ev84⟩ : ∃ q : Int32, x1 + 1 = q := ⟨_, rfl⟩
          have zv84 : v84.toInt = (x1.toInt + 1) := by rw [← ev84]; exact (xz_add (X := x1.toInt) (Y := 1) rfl (by decide) (by omega) (by omega)).trans (by omega)
          refine xi_iinc (pc' := 88) (x := x1) (v := v84) (lv' := [(1, .int v84), (0, .ref 115)]) kc_35_85 rfl rfl ev84 rfl (xm_lt ml_35 rfl) ?_
          refine xi_goto (pc' := 2) kc_35_88 rfl ?_
          refine xw_lv (b := [(0, .ref 115), (1, .int v84)]) (lvS_cons (lvS_cons (lvS_nil (show ([1, 0] : List Nat).Nodup by decide)) rfl) rfl) ?_
          exact i0 v84 h (by omega) (fun v e => by have e2 := xl_val (u := u2) A14 rfl e; subst e2; omega) K (by omega)
    · intro x1 h b1 gh0 K hm
      obtain ⟨u1, u2, u3, u4, u5, u6, u7, u8, u9, u10, u11, u12, u13, bu1, bu2, bu3, bu4, bu5, bu6, bu7, bu8, bu9, bu10, bu11, bu12, bu13, A14⟩ := xq_115 K.1
      have gh0' := gh0 _ (xl_of A14 rfl)
      refine xi_iload_n (pc' := 94) (x := x1) kc_35_93 rfl rfl ?_
      refine xi_bipush (pc' := 96) (v := 6) kc_35_94 rfl rfl ?_
      by_cases c15 : 6 ≤ x1.toInt
      · refine xi_cmt (pc' := 117) kc_35_96 rfl (xc_ge_t (X := x1.toInt) (Y := 6) rfl (by decide) (by omega)) ?_
        refine xi_iconst (pc' := 118) (v := 0) kc_35_117 rfl rfl ?_
        refine xi_istore_n (pc' := 119) (lv' := [(1, .int 0), (0, .ref 115)]) kc_35_118 rfl rfl (xm_lt ml_35 rfl) ?_
        have zc0 : (0 : Int32).toInt = 0 := by decide
        refine xw_lv (b := [(0, .ref 115), (1, .int 0)]) (lvS_cons (lvS_cons (lvS_nil (show ([1, 0] : List Nat).Nodup by decide)) rfl) rfl) ?_
        exact i2 0 h (by omega) (fun v e => by have e2 := xl_val (u := u2) A14 rfl e; subst e2; omega) K (by omega)
      · refine xi_cmf (pc' := 99) kc_35_96 rfl (xc_ge_f (X := x1.toInt) (Y := 6) rfl (by decide) (by omega)) ?_
        refine xi_aload_n (pc' := 100) (x := 115) kc_35_99 rfl rfl ?_
        refine xi_getfield (pc' := 103) (v := .ref 141) kc_35_100 rfl rfl rfl A14 rfl ?_
        refine xi_iload_n (pc' := 104) (x := x1) kc_35_103 rfl rfl ?_
        refine xi_aload_n (pc' := 105) (x := 115) kc_35_104 rfl rfl ?_
        refine xi_getfield (pc' := 108) (v := .ref 121) kc_35_105 rfl rfl rfl A14 rfl ?_
        refine xi_iload_n (pc' := 109) (x := x1) kc_35_108 rfl rfl ?_
        obtain ⟨y16, A16, hy16, ry16⟩ := xk_arr K.1 xD_121
        obtain ⟨v17, ev17, bv17, dv17⟩ := xj_get hy16 ry16 (i := x1) (by omega) (by omega)
        refine xi_iaload (pc' := 110) (v := v17) kc_35_109 rfl A16 (by decide) rfl (xi_in (by omega) (by rw [hy16]; omega)) ev17 ?_
        obtain ⟨y18, A18, hy18, ry18⟩ := xk_arr K.1 xD_141
        obtain ⟨y19, s19, hy19, ry19⟩ := xj_set (v := v17) hy18 ry18 x1 (by first | omega | decide) (by first | omega | decide)
        refine xi_iastore (pc' := 111) (x' := y19) kc_35_110 rfl A18 rfl (xi_in (by omega) (by rw [hy18]; omega)) s19 (fun hh19 eh19 => ?_)
        have K20 := xk_pa K (xk_wa rfl) xD_141 hy19 ry19 eh19
        obtain ⟨v21, ev21⟩ : ∃ q : Int32, x1 + 1 = q := ⟨_, rfl⟩
        have zv21 : v21.toInt = (x1.toInt + 1) := by rw [← ev21]; exact (xz_add (X := x1.toInt) (Y := 1) rfl (by decide) (by omega) (by omega)).trans (by omega)
        refine xi_iinc (pc' := 114) (x := x1) (v := v21) (lv' := [(1, .int v21), (0, .ref 115)]) kc_35_111 rfl rfl ev21 rfl (xm_lt ml_35 rfl) ?_
        refine xi_goto (pc' := 93) kc_35_114 rfl ?_
        have A22 := ((eh19.2.1 115 (by decide)).trans A14)
        refine xw_lv (b := [(0, .ref 115), (1, .int v21)]) (lvS_cons (lvS_cons (lvS_nil (show ([1, 0] : List Nat).Nodup by decide)) rfl) rfl) ?_
        exact i1 v21 hh19 (by omega) (fun v e => by have e2 := xl_val (u := u2) A22 rfl e; subst e2; omega) K20 (by omega)
    · intro x1 h b1 gh0 K hm
      obtain ⟨u1, u2, u3, u4, u5, u6, u7, u8, u9, u10, u11, u12, u13, bu1, bu2, bu3, bu4, bu5, bu6, bu7, bu8, bu9, bu10, bu11, bu12, bu13, A14⟩ := xq_115 K.1
      have gh0' := gh0 _ (xl_of A14 rfl)
      refine xi_iload_n (pc' := 120) (x := x1) kc_35_119 rfl rfl ?_
      refine xi_bipush (pc' := 122) (v := 12) kc_35_120 rfl rfl ?_
      by_cases c15 : 12 ≤ x1.toInt
      · refine xi_cmt (pc' := 143) kc_35_122 rfl (xc_ge_t (X := x1.toInt) (Y := 12) rfl (by decide) (by omega)) ?_
        refine xi_aload_n (pc' := 144) (x := 115) kc_35_143 rfl rfl ?_
        refine xi_aload_n (pc' := 145) (x := 115) kc_35_144 rfl rfl ?_
        refine xi_aload_n (pc' := 146) (x := 115) kc_35_145 rfl rfl ?_
        refine xi_getfield (pc' := 149) (v := .int u2) kc_35_146 rfl rfl rfl A14 rfl ?_
        refine xi_virtual (mj := 19) (as := [.int u2]) (st1 := [.ref 115]) (lv0 := [(0, .ref 115), (1, .int u2)]) kc_35_149 rfl rfl rfl rfl rfl A14 (Nat.le_of_ble_eq_true rfl) (hJ _ _ _ _ (by decide)) (xm_le ml_19 rfl) rfl ?_
        refine mt_19_0 hJ hov1 hov2 (d := d + 3) (x1 := u2) K.1 (by first | omega | decide) (fun r16 hh17 K18 => ?_)
        have br16 := xc_rng r16
        have K19 := xk_tr K K18 rfl
        obtain ⟨u20, u21, u22, u23, u24, u25, u26, u27, u28, u29, u30, u31, u32, bu20, bu21, bu22, bu23, bu24, bu25, bu26, bu27, bu28, bu29, bu30, bu31, bu32, A33⟩ := xq_115 K19.1
        have e34 : u2 = u21 := xk_eqi (q := 1) K18 rfl A14 A33 rfl rfl
        subst e34
        show xw J ov (d + 5) 35 (152, [(0, .ref 115), (1, .int x1)], [.int r16, .ref 115], hh17) _
        refine xi_putfield (pc' := 155) (fs' := [.int u20, .int u2, .ref 116, .ref 117, .ref 118, .ref 119, .ref 120, .ref 121, .ref 122, .ref 123, .ref 124, .ref 125, .ref 126, .ref 127, .ref 128, .ref 129, .int u22, .ref 130, .int u23, .ref 131, .ref 132, .ref 133, .ref 134, .int u24, .ref 135, .ref 136, .ref 137, .ref 138, .ref 139, .ref 140, .ref 141, .ref 142, .int r16, .int u26, .int u27, .ref 143, .ref 144, .ref 145, .ref 146, .ref 147, .ref 148, .int u28, .ref 149, .ref 150, .ref 151, .int u29, .ref 152, .ref 153, .ref 154, .ref 155, .ref 156, .ref 157, .ref 158, .ref 159, .int u30, .ref 160, .int u31, .ref 161, .ref 162, .ref 163, .ref 164, .int u32, .ref 165, .ref 166]) kc_35_152 rfl rfl rfl A33 rfl rfl rfl (Nat.le_of_ble_eq_true rfl) rfl (fun hh36 eh35 => ?_)
        have K37 := xk_pf (k := 32) (v := r16) K19 (xk_wf rfl) xD_115 A33 rfl (by first | omega | decide) (by first | omega | decide) eh35 rfl
        refine xi_aload_n (pc' := 156) (x := 115) kc_35_155 rfl rfl ?_
        refine xi_aload_n (pc' := 157) (x := 115) kc_35_156 rfl rfl ?_
        refine xi_aload_n (pc' := 158) (x := 115) kc_35_157 rfl rfl ?_
        refine xi_getfield (pc' := 161) (v := .int u2) kc_35_158 rfl rfl rfl eh35.1 rfl ?_
        refine xi_virtual (mj := 20) (as := [.int u2]) (st1 := [.ref 115]) (lv0 := [(0, .ref 115), (1, .int u2)]) kc_35_161 rfl rfl rfl rfl rfl eh35.1 (Nat.le_of_ble_eq_true rfl) (hJ _ _ _ _ (by decide)) (xm_le ml_20 rfl) rfl ?_
        refine mt_20_0 hJ hov1 hov2 (d := d + 3) (x1 := u2) K37.1 (by first | omega | decide) (fun r38 hh39 K40 => ?_)
        have br38 := xc_rng r38
        have K41 := xk_tr K37 K40 rfl
        obtain ⟨u42, u43, u44, u45, u46, u47, u48, u49, u50, u51, u52, u53, u54, bu42, bu43, bu44, bu45, bu46, bu47, bu48, bu49, bu50, bu51, bu52, bu53, bu54, A55⟩ := xq_115 K41.1
        have e56 : u2 = u43 := xk_eqi (q := 1) K40 rfl eh35.1 A55 rfl rfl
        subst e56
        show xw J ov (d + 5) 35 (164, [(0, .ref 115), (1, .int x1)], [.int r38, .ref 115], hh39) _
        refine xi_putfield (pc' := 167) (fs' := [.int u42, .int u2, .ref 116, .ref 117, .ref 118, .ref 119, .ref 120, .ref 121, .ref 122, .ref 123, .ref 124, .ref 125, .ref 126, .ref 127, .ref 128, .ref 129, .int u44, .ref 130, .int u45, .ref 131, .ref 132, .ref 133, .ref 134, .int u46, .ref 135, .ref 136, .ref 137, .ref 138, .ref 139, .ref 140, .ref 141, .ref 142, .int u47, .int r38, .int u49, .ref 143, .ref 144, .ref 145, .ref 146, .ref 147, .ref 148, .int u50, .ref 149, .ref 150, .ref 151, .int u51, .ref 152, .ref 153, .ref 154, .ref 155, .ref 156, .ref 157, .ref 158, .ref 159, .int u52, .ref 160, .int u53, .ref 161, .ref 162, .ref 163, .ref 164, .int u54, .ref 165, .ref 166]) kc_35_164 rfl rfl rfl A55 rfl rfl rfl (Nat.le_of_ble_eq_true rfl) rfl (fun hh58 eh57 => ?_)
        have K59 := xk_pf (k := 33) (v := r38) K41 (xk_wf rfl) xD_115 A55 rfl (by first | omega | decide) (by first | omega | decide) eh57 rfl
        refine xi_aload_n (pc' := 168) (x := 115) kc_35_167 rfl rfl ?_
        refine xi_iconst (pc' := 169) (v := 0) kc_35_168 rfl rfl ?_
        refine xi_iconst (pc' := 170) (v := 1) kc_35_169 rfl rfl ?_
        refine xi_aload_n (pc' := 171) (x := 115) kc_35_170 rfl rfl ?_
        refine xi_getfield (pc' := 174) (v := .int u2) kc_35_171 rfl rfl rfl eh57.1 rfl ?_
        refine xi_virtual (mj := 36) (as := [.int 0, .int 1, .int u2]) (st1 := []) (lv0 := [(0, .ref 115), (1, .int 0), (2, .int 1), (3, .int u2)]) kc_35_174 rfl rfl rfl rfl rfl eh57.1 (Nat.le_of_ble_eq_true rfl) (hJ _ _ _ _ (by decide)) (xm_le ml_36 rfl) rfl ?_
        have zc0 : (0 : Int32).toInt = 0 := by decide
        have zc1 : (1 : Int32).toInt = 1 := by decide
        refine mt_36_0 hJ hov1 hov2 (d := d) (x1 := 0) (x2 := 1) (x3 := u2) K59.1 (by first | omega | decide) (by first | omega | decide) (by first | omega | decide) (fun hh61 K62 => ?_)
        have K63 := xk_tr K59 K62 rfl
        obtain ⟨u64, u65, u66, u67, u68, u69, u70, u71, u72, u73, u74, u75, u76, bu64, bu65, bu66, bu67, bu68, bu69, bu70, bu71, bu72, bu73, bu74, bu75, bu76, A77⟩ := xq_115 K63.1
        have e78 : u2 = u65 := xk_eqi (q := 1) K62 rfl eh57.1 A77 rfl rfl
        subst e78
        show xw J ov (d + 5) 35 (177, [(0, .ref 115), (1, .int x1)], [], hh61) _
        refine xi_iconst (pc' := 178) (v := 0) kc_35_177 rfl rfl ?_
        refine xi_istore_n (pc' := 179) (lv' := [(1, .int 0), (0, .ref 115)]) kc_35_178 rfl rfl (xm_lt ml_35 rfl) ?_
        have zc0 : (0 : Int32).toInt = 0 := by decide
        refine xw_lv (b := [(0, .ref 115), (1, .int 0)]) (lvS_cons (lvS_cons (lvS_nil (show ([1, 0] : List Nat).Nodup by decide)) rfl) rfl) ?_
        exact i3 0 hh61 (by omega) (fun v e => by have e2 := xl_val (u := u2) A77 rfl e; subst e2; omega) K63 (by omega)
      · refine xi_cmf (pc' := 125) kc_35_122 rfl (xc_ge_f (X := x1.toInt) (Y := 12) rfl (by decide) (by omega)) ?_
        refine xi_aload_n (pc' := 126) (x := 115) kc_35_125 rfl rfl ?_
        refine xi_getfield (pc' := 129) (v := .ref 142) kc_35_126 rfl rfl rfl A14 rfl ?_
        refine xi_iload_n (pc' := 130) (x := x1) kc_35_129 rfl rfl ?_
        refine xi_aload_n (pc' := 131) (x := 115) kc_35_130 rfl rfl ?_
        refine xi_getfield (pc' := 134) (v := .ref 128) kc_35_131 rfl rfl rfl A14 rfl ?_
        refine xi_iload_n (pc' := 135) (x := x1) kc_35_134 rfl rfl ?_
        obtain ⟨y79, A79, hy79, ry79⟩ := xk_arr K.1 xD_128
        obtain ⟨v80, ev80, bv80, dv80⟩ := xj_get hy79 ry79 (i := x1) (by omega) (by omega)
        refine xi_iaload (pc' := 136) (v := v80) kc_35_135 rfl A79 (by decide) rfl (xi_in (by omega) (by rw [hy79]; omega)) ev80 ?_
        obtain ⟨y81, A81, hy81, ry81⟩ := xk_arr K.1 xD_142
        obtain ⟨y82, s82, hy82, ry82⟩ := xj_set (v := v80) hy81 ry81 x1 (by first | omega | decide) (by first | omega | decide)
        refine xi_iastore (pc' := 137) (x' := y82) kc_35_136 rfl A81 rfl (xi_in (by omega) (by rw [hy81]; omega)) s82 (fun hh82 eh82 => ?_)
        have K83 := xk_pa K (xk_wa rfl) xD_142 hy82 ry82 eh82
        obtain ⟨v84, ev84⟩ : ∃ q : Int32, x1 + 1 = q := ⟨_, rfl⟩
        have zv84 : v84.toInt = (x1.toInt + 1) := by rw [← ev84]; exact (xz_add (X := x1.toInt) (Y := 1) rfl (by decide) (by omega) (by omega)).trans (by omega)
        refine xi_iinc (pc' := 140) (x := x1) (v := v84) (lv' := [(1, .int v84), (0, .ref 115)]) kc_35_137 rfl rfl ev84 rfl (xm_lt ml_35 rfl) ?_
        refine xi_goto (pc' := 119) kc_35_140 rfl ?_
        have A85 := ((eh82.2.1 115 (by decide)).trans A14)
        refine xw_lv (b := [(0, .ref 115), (1, .int v84)]) (lvS_cons (lvS_cons (lvS_nil (show ([1, 0] : List Nat).Nodup by decide)) rfl) rfl) ?_
        exact i2 v84 hh82 (by omega) (fun v e => by have e2 := xl_val (u := u2) A85 rfl e; subst e2; omega) K83 (by omega)
    · intro x1 h b1 gh0 K hm
      obtain ⟨u1, u2, u3, u4, u5, u6, u7, u8, u9, u10, u11, u12, u13, bu1, bu2, bu3, bu4, bu5, bu6, bu7, bu8, bu9, bu10, bu11, bu12, bu13, A14⟩ := xq_115 K.1
      have gh0' := gh0 _ (xl_of A14 rfl)
      refine xi_iload_n (pc' := 180) (x := x1) kc_35_179 rfl rfl ?_
      refine xi_bipush (pc' := 182) (v := 6) kc_35_180 rfl rfl ?_
      by_cases c15 : 6 ≤ x1.toInt
      · refine xi_cmt (pc' := 203) kc_35_182 rfl (xc_ge_t (X := x1.toInt) (Y := 6) rfl (by decide) (by omega)) ?_
        refine xi_iconst (pc' := 204) (v := 0) kc_35_203 rfl rfl ?_
        refine xi_istore_n (pc' := 205) (lv' := [(1, .int 0), (0, .ref 115)]) kc_35_204 rfl rfl (xm_lt ml_35 rfl) ?_
        have zc0 : (0 : Int32).toInt = 0 := by decide
        refine xw_lv (b := [(0, .ref 115), (1, .int 0)]) (lvS_cons (lvS_cons (lvS_nil (show ([1, 0] : List Nat).Nodup by decide)) rfl) rfl) ?_
        exact i4 0 h (by omega) (fun v e => by have e2 := xl_val (u := u2) A14 rfl e; subst e2; omega) K (by omega)
      · refine xi_cmf (pc' := 185) kc_35_182 rfl (xc_ge_f (X := x1.toInt) (Y := 6) rfl (by decide) (by omega)) ?_
        refine xi_aload_n (pc' := 186) (x := 115) kc_35_185 rfl rfl ?_
        refine xi_getfield (pc' := 189) (v := .ref 121) kc_35_186 rfl rfl rfl A14 rfl ?_
        refine xi_iload_n (pc' := 190) (x := x1) kc_35_189 rfl rfl ?_
        refine xi_aload_n (pc' := 191) (x := 115) kc_35_190 rfl rfl ?_
        refine xi_getfield (pc' := 194) (v := .ref 141) kc_35_191 rfl rfl rfl A14 rfl ?_
        refine xi_iload_n (pc' := 195) (x := x1) kc_35_194 rfl rfl ?_
        obtain ⟨y16, A16, hy16, ry16⟩ := xk_arr K.1 xD_141
        obtain ⟨v17, ev17, bv17, dv17⟩ := xj_get hy16 ry16 (i := x1) (by omega) (by omega)
        refine xi_iaload (pc' := 196) (v := v17) kc_35_195 rfl A16 (by decide) rfl (xi_in (by omega) (by rw [hy16]; omega)) ev17 ?_
        obtain ⟨y18, A18, hy18, ry18⟩ := xk_arr K.1 xD_121
        obtain ⟨y19, s19, hy19, ry19⟩ := xj_set (v := v17) hy18 ry18 x1 (by first | omega | decide) (by first | omega | decide)
        refine xi_iastore (pc' := 197) (x' := y19) kc_35_196 rfl A18 rfl (xi_in (by omega) (by rw [hy18]; omega)) s19 (fun hh19 eh19 => ?_)
        have K20 := xk_pa K (xk_wa rfl) xD_121 hy19 ry19 eh19
        obtain ⟨v21, ev21⟩ : ∃ q : Int32, x1 + 1 = q := ⟨_, rfl⟩
        have zv21 : v21.toInt = (x1.toInt + 1) := by rw [← ev21]; exact (xz_add (X := x1.toInt) (Y := 1) rfl (by decide) (by omega) (by omega)).trans (by omega)
        refine xi_iinc (pc' := 200) (x := x1) (v := v21) (lv' := [(1, .int v21), (0, .ref 115)]) kc_35_197 rfl rfl ev21 rfl (xm_lt ml_35 rfl) ?_
        refine xi_goto (pc' := 179) kc_35_200 rfl ?_
        have A22 := ((eh19.2.1 115 (by decide)).trans A14)
        refine xw_lv (b := [(0, .ref 115), (1, .int v21)]) (lvS_cons (lvS_cons (lvS_nil (show ([1, 0] : List Nat).Nodup by decide)) rfl) rfl) ?_
        exact i3 v21 hh19 (by omega) (fun v e => by have e2 := xl_val (u := u2) A22 rfl e; subst e2; omega) K20 (by omega)
    · intro x1 h b1 gh0 K hm
      obtain ⟨u1, u2, u3, u4, u5, u6, u7, u8, u9, u10, u11, u12, u13, bu1, bu2, bu3, bu4, bu5, bu6, bu7, bu8, bu9, bu10, bu11, bu12, bu13, A14⟩ := xq_115 K.1
      have gh0' := gh0 _ (xl_of A14 rfl)
      refine xi_iload_n (pc' := 206) (x := x1) kc_35_205 rfl rfl ?_
      refine xi_bipush (pc' := 208) (v := 12) kc_35_206 rfl rfl ?_
      by_cases c15 : 12 ≤ x1.toInt
      · refine xi_cmt (pc' := 274) kc_35_208 rfl (xc_ge_t (X := x1.toInt) (Y := 12) rfl (by decide) (by omega)) ?_
        refine xi_aload_n (pc' := 275) (x := 115) kc_35_274 rfl rfl ?_
        refine xi_dup (pc' := 276) kc_35_275 rfl rfl ?_
        refine xi_getfield (pc' := 279) (v := .int u2) kc_35_276 rfl rfl rfl A14 rfl ?_
        refine xi_iconst (pc' := 280) (v := 1) kc_35_279 rfl rfl ?_
        obtain ⟨v16, ev16⟩ : ∃ q : Int32, u2 + 1 = q := ⟨_, rfl⟩
        have zv16 : v16.toInt = (u2.toInt + 1) := by rw [← ev16]; exact (xz_add (X := u2.toInt) (Y := 1) rfl (by decide) (by omega) (by omega)).trans (by omega)
        refine xi_iadd (pc' := 281) (v := v16) kc_35_280 rfl ev16 ?_
        refine xi_putfield (pc' := 284) (fs' := [.int u1, .int v16, .ref 116, .ref 117, .ref 118, .ref 119, .ref 120, .ref 121, .ref 122, .ref 123, .ref 124, .ref 125, .ref 126, .ref 127, .ref 128, .ref 129, .int u3, .ref 130, .int u4, .ref 131, .ref 132, .ref 133, .ref 134, .int u5, .ref 135, .ref 136, .ref 137, .ref 138, .ref 139, .ref 140, .ref 141, .ref 142, .int u6, .int u7, .int u8, .ref 143, .ref 144, .ref 145, .ref 146, .ref 147, .ref 148, .int u9, .ref 149, .ref 150, .ref 151, .int u10, .ref 152, .ref 153, .ref 154, .ref 155, .ref 156, .ref 157, .ref 158, .ref 159, .int u11, .ref 160, .int u12, .ref 161, .ref 162, .ref 163, .ref 164, .int u13, .ref 165, .ref 166]) kc_35_281 rfl rfl rfl A14 rfl rfl rfl (Nat.le_of_ble_eq_true rfl) rfl (fun hh18 eh17 => ?_)
        have K19 := xk_pf (k := 1) (v := v16) K (xk_wf rfl) xD_115 A14 rfl (by first | omega | decide) (by first | omega | decide) eh17 rfl
        refine xi_iconst (pc' := 285) (v := 0) kc_35_284 rfl rfl ?_
        refine xi_istore_n (pc' := 286) (lv' := [(1, .int 0), (0, .ref 115)]) kc_35_285 rfl rfl (xm_lt ml_35 rfl) ?_
        have zc0 : (0 : Int32).toInt = 0 := by decide
        refine xw_lv (b := [(0, .ref 115), (1, .int 0)]) (lvS_cons (lvS_cons (lvS_nil (show ([1, 0] : List Nat).Nodup by decide)) rfl) rfl) ?_
        exact i5 0 hh18 (by omega) (fun v e => by have e2 := xl_val (u := v16) eh17.1 rfl e; subst e2; omega) K19 (by omega)
      · refine xi_cmf (pc' := 211) kc_35_208 rfl (xc_ge_f (X := x1.toInt) (Y := 12) rfl (by decide) (by omega)) ?_
        refine xi_aload_n (pc' := 212) (x := 115) kc_35_211 rfl rfl ?_
        refine xi_getfield (pc' := 215) (v := .ref 128) kc_35_212 rfl rfl rfl A14 rfl ?_
        refine xi_iload_n (pc' := 216) (x := x1) kc_35_215 rfl rfl ?_
        refine xi_aload_n (pc' := 217) (x := 115) kc_35_216 rfl rfl ?_
        refine xi_getfield (pc' := 220) (v := .ref 142) kc_35_217 rfl rfl rfl A14 rfl ?_
        refine xi_iload_n (pc' := 221) (x := x1) kc_35_220 rfl rfl ?_
        obtain ⟨y20, A20, hy20, ry20⟩ := xk_arr K.1 xD_142
        obtain ⟨v21, ev21, bv21, dv21⟩ := xj_get hy20 ry20 (i := x1) (by omega) (by omega)
        refine xi_iaload (pc' := 222) (v := v21) kc_35_221 rfl A20 (by decide) rfl (xi_in (by omega) (by rw [hy20]; omega)) ev21 ?_
        obtain ⟨y22, A22, hy22, ry22⟩ := xk_arr K.1 xD_128
        obtain ⟨y23, s23, hy23, ry23⟩ := xj_set (v := v21) hy22 ry22 x1 (by first | omega | decide) (by first | omega | decide)
        refine xi_iastore (pc' := 223) (x' := y23) kc_35_222 rfl A22 rfl (xi_in (by omega) (by rw [hy22]; omega)) s23 (fun hh23 eh23 => ?_)
        have K24 := xk_pa K (xk_wa rfl) xD_128 hy23 ry23 eh23
        refine xi_aload_n (pc' := 224) (x := 115) kc_35_223 rfl rfl ?_
        have A25 := ((eh23.2.1 115 (by decide)).trans A14)
        refine xi_getfield (pc' := 227) (v := .ref 129) kc_35_224 rfl rfl rfl A25 rfl ?_
        refine xi_iload_n (pc' := 228) (x := x1) kc_35_227 rfl rfl ?_
        refine xi_dup2 (pc' := 229) kc_35_228 rfl ⟨rfl, rfl⟩ ?_
        obtain ⟨y26, A26, hy26, ry26⟩ := xk_arr K24.1 xD_129
        obtain ⟨v27, ev27, bv27, dv27⟩ := xj_get hy26 ry26 (i := x1) (by omega) (by omega)
        refine xi_iaload (pc' := 230) (v := v27) kc_35_229 rfl A26 (by decide) rfl (xi_in (by omega) (by rw [hy26]; omega)) ev27 ?_
        refine xi_aload_n (pc' := 231) (x := 115) kc_35_230 rfl rfl ?_
        refine xi_getfield (pc' := 234) (v := .ref 128) kc_35_231 rfl rfl rfl A25 rfl ?_
        refine xi_iload_n (pc' := 235) (x := x1) kc_35_234 rfl rfl ?_
        obtain ⟨v28, ev28, bv28, dv28⟩ := xj_get hy23 ry23 (i := x1) (by omega) (by omega)
        refine xi_iaload (pc' := 236) (v := v28) kc_35_235 rfl eh23.1 (by decide) rfl (xi_in (by omega) (by rw [hy23]; omega)) ev28 ?_
        refine xi_bipush (pc' := 238) (v := 50) kc_35_236 rfl rfl ?_
        by_cases c29 : v28.toInt < 50
        · refine xi_cmt (pc' := 245) kc_35_238 rfl (xc_lt_t (X := v28.toInt) (Y := 50) rfl (by decide) (by omega)) ?_
          refine xi_iconst (pc' := 246) (v := 0) kc_35_245 rfl rfl ?_
          obtain ⟨v30, ev30⟩ : ∃ q : Int32, v27 + 0 = q := ⟨_, rfl⟩
          have zv30 : v30.toInt = v27.toInt := by rw [← ev30]; exact (xz_add (X := v27.toInt) (Y := 0) rfl (by decide) (by omega) (by omega)).trans (by omega)
          refine xi_iadd (pc' := 247) (v := v30) kc_35_246 rfl ev30 ?_
          obtain ⟨y31, s31, hy31, ry31⟩ := xj_set (v := v30) hy26 ry26 x1 (by first | omega | decide) (by first | omega | decide)
          refine xi_iastore (pc' := 248) (x' := y31) kc_35_247 rfl A26 rfl (xi_in (by omega) (by rw [hy26]; omega)) s31 (fun hh31 eh31 => ?_)
          have K32 := xk_pa K24 (xk_wa rfl) xD_129 hy31 ry31 eh31
          refine xi_aload_n (pc' := 249) (x := 115) kc_35_248 rfl rfl ?_
          have A33 := ((eh31.2.1 115 (by decide)).trans A25)
          refine xi_getfield (pc' := 252) (v := .ref 130) kc_35_249 rfl rfl rfl A33 rfl ?_
          refine xi_bipush (pc' := 254) (v := 12) kc_35_252 rfl rfl ?_
          refine xi_aload_n (pc' := 255) (x := 115) kc_35_254 rfl rfl ?_
          refine xi_getfield (pc' := 258) (v := .int u2) kc_35_255 rfl rfl rfl A33 rfl ?_
          obtain ⟨v34, ev34⟩ : ∃ q : Int32, 12 * u2 = q := ⟨_, rfl⟩
          have zv34 : v34.toInt = (12) * u2.toInt := by rw [← ev34]; exact (xz_mul (X := 12) (Y := u2.toInt) (by decide) rfl (by omega) (by omega)).trans (by omega)
          refine xi_imul (pc' := 259) (v := v34) kc_35_258 rfl ev34 ?_
          refine xi_iload_n (pc' := 260) (x := x1) kc_35_259 rfl rfl ?_
          obtain ⟨v35, ev35⟩ : ∃ q : Int32, v34 + x1 = q := ⟨_, rfl⟩
          have zv35 : v35.toInt = ((12) * u2.toInt + x1.toInt) := by rw [← ev35]; exact (xz_add (X := (12) * u2.toInt) (Y := x1.toInt) zv34 rfl (by omega) (by omega)).trans (by omega)
          refine xi_iadd (pc' := 261) (v := v35) kc_35_260 rfl ev35 ?_
          refine xi_aload_n (pc' := 262) (x := 115) kc_35_261 rfl rfl ?_
          refine xi_getfield (pc' := 265) (v := .ref 128) kc_35_262 rfl rfl rfl A33 rfl ?_
          refine xi_iload_n (pc' := 266) (x := x1) kc_35_265 rfl rfl ?_
          have A36 := ((eh31.2.1 128 (by decide)).trans eh23.1)
          refine xi_iaload (pc' := 267) (v := v28) kc_35_266 rfl A36 (by decide) rfl (xi_in (by omega) (by rw [hy23]; omega)) ev28 ?_
          obtain ⟨y37, A37, hy37, ry37⟩ := xk_arr K32.1 xD_130
          obtain ⟨y38, s38, hy38, ry38⟩ := xj_set (v := v28) hy37 ry37 v35 (by first | omega | decide) (by first | omega | decide)
          refine xi_iastore (pc' := 268) (x' := y38) kc_35_267 rfl A37 rfl (xi_in (by rw [zv35]; omega) (by rw [hy37]; rw [zv35]; omega)) s38 (fun hh38 eh38 => ?_)
          have K39 := xk_pa K32 (xk_wa rfl) xD_130 hy38 ry38 eh38
          obtain ⟨v40, ev40⟩ : ∃ q : Int32, x1 + 1 = q := ⟨_, rfl⟩
          have zv40 : v40.toInt = (x1.toInt + 1) := by rw [← ev40]; exact (xz_add (X := x1.toInt) (Y := 1) rfl (by decide) (by omega) (by omega)).trans (by omega)
          refine xi_iinc (pc' := 271) (x := x1) (v := v40) (lv' := [(1, .int v40), (0, .ref 115)]) kc_35_268 rfl rfl ev40 rfl (xm_lt ml_35 rfl) ?_
          refine xi_goto (pc' := 205) kc_35_271 rfl ?_
          have A41 := ((eh38.2.1 115 (by decide)).trans A33)
          refine xw_lv (b := [(0, .ref 115), (1, .int v40)]) (lvS_cons (lvS_cons (lvS_nil (show ([1, 0] : List Nat).Nodup by decide)) rfl) rfl) ?_
          exact i4 v40 hh38 (by omega) (fun v e => by have e2 := xl_val (u := u2) A41 rfl e; subst e2; omega) K39 (by omega)
        · refine xi_cmf (pc' := 241) kc_35_238 rfl (xc_lt_f (X := v28.toInt) (Y := 50) rfl (by decide) (by omega)) ?_
          refine xi_iconst (pc' := 242) (v := 1) kc_35_241 rfl rfl ?_
          refine xi_goto (pc' := 246) kc_35_242 rfl ?_
          obtain ⟨v42, ev42⟩ : ∃ q : Int32, (v27 : Int32) + 1 = q := ⟨_, rfl⟩
          have rv42 := xc_rng v42
          refine xi_iadd (pc' := 247) (v := v42) kc_35_246 rfl ev42 ?_
          obtain ⟨y43, s43, hy43, ry43⟩ := xj_set (v := v42) hy26 ry26 x1 (by first | omega | decide) (by first | omega | decide)
          refine xi_iastore (pc' := 248) (x' := y43) kc_35_247 rfl A26 rfl (xi_in (by omega) (by rw [hy26]; omega)) s43 (fun hh43 eh43 => ?_)
          have K44 := xk_pa K24 (xk_wa rfl) xD_129 hy43 ry43 eh43
          refine xi_aload_n (pc' := 249) (x := 115) kc_35_248 rfl rfl ?_
          have A45 := ((eh43.2.1 115 (by decide)).trans A25)
          refine xi_getfield (pc' := 252) (v := .ref 130) kc_35_249 rfl rfl rfl A45 rfl ?_
          refine xi_bipush (pc' := 254) (v := 12) kc_35_252 rfl rfl ?_
          refine xi_aload_n (pc' := 255) (x := 115) kc_35_254 rfl rfl ?_
          refine xi_getfield (pc' := 258) (v := .int u2) kc_35_255 rfl rfl rfl A45 rfl ?_
          obtain ⟨v46, ev46⟩ : ∃ q : Int32, 12 * u2 = q := ⟨_, rfl⟩
          have zv46 : v46.toInt = (12) * u2.toInt := by rw [← ev46]; exact (xz_mul (X := 12) (Y := u2.toInt) (by decide) rfl (by omega) (by omega)).trans (by omega)
          refine xi_imul (pc' := 259) (v := v46) kc_35_258 rfl ev46 ?_
          refine xi_iload_n (pc' := 260) (x := x1) kc_35_259 rfl rfl ?_
          obtain ⟨v47, ev47⟩ : ∃ q : Int32, v46 + x1 = q := ⟨_, rfl⟩
          have zv47 : v47.toInt = ((12) * u2.toInt + x1.toInt) := by rw [← ev47]; exact (xz_add (X := (12) * u2.toInt) (Y := x1.toInt) zv46 rfl (by omega) (by omega)).trans (by omega)
          refine xi_iadd (pc' := 261) (v := v47) kc_35_260 rfl ev47 ?_
          refine xi_aload_n (pc' := 262) (x := 115) kc_35_261 rfl rfl ?_
          refine xi_getfield (pc' := 265) (v := .ref 128) kc_35_262 rfl rfl rfl A45 rfl ?_
          refine xi_iload_n (pc' := 266) (x := x1) kc_35_265 rfl rfl ?_
          have A48 := ((eh43.2.1 128 (by decide)).trans eh23.1)
          refine xi_iaload (pc' := 267) (v := v28) kc_35_266 rfl A48 (by decide) rfl (xi_in (by omega) (by rw [hy23]; omega)) ev28 ?_
          obtain ⟨y49, A49, hy49, ry49⟩ := xk_arr K44.1 xD_130
          obtain ⟨y50, s50, hy50, ry50⟩ := xj_set (v := v28) hy49 ry49 v47 (by first | omega | decide) (by first | omega | decide)
          refine xi_iastore (pc' := 268) (x' := y50) kc_35_267 rfl A49 rfl (xi_in (by rw [zv47]; omega) (by rw [hy49]; rw [zv47]; omega)) s50 (fun hh50 eh50 => ?_)
          have K51 := xk_pa K44 (xk_wa rfl) xD_130 hy50 ry50 eh50
          obtain ⟨v52, ev52⟩ : ∃ q : Int32, x1 + 1 = q := ⟨_, rfl⟩
          have zv52 : v52.toInt = (x1.toInt + 1) := by rw [← ev52]; exact (xz_add (X := x1.toInt) (Y := 1) rfl (by decide) (by omega) (by omega)).trans (by omega)
          refine xi_iinc (pc' := 271) (x := x1) (v := v52) (lv' := [(1, .int v52), (0, .ref 115)]) kc_35_268 rfl rfl ev52 rfl (xm_lt ml_35 rfl) ?_
          refine xi_goto (pc' := 205) kc_35_271 rfl ?_
          have A53 := ((eh50.2.1 115 (by decide)).trans A45)
          refine xw_lv (b := [(0, .ref 115), (1, .int v52)]) (lvS_cons (lvS_cons (lvS_nil (show ([1, 0] : List Nat).Nodup by decide)) rfl) rfl) ?_
          exact i4 v52 hh50 (by omega) (fun v e => by have e2 := xl_val (u := u2) A53 rfl e; subst e2; omega) K51 (by omega)
    · intro x1 h b1 gh0 K hm
      obtain ⟨u1, u2, u3, u4, u5, u6, u7, u8, u9, u10, u11, u12, u13, bu1, bu2, bu3, bu4, bu5, bu6, bu7, bu8, bu9, bu10, bu11, bu12, bu13, A14⟩ := xq_115 K.1
      have gh0' := gh0 _ (xl_of A14 rfl)
      refine xi_iload_n (pc' := 287) (x := x1) kc_35_286 rfl rfl ?_
      refine xi_aload_n (pc' := 288) (x := 115) kc_35_287 rfl rfl ?_
      refine xi_getfield (pc' := 291) (v := .int u8) kc_35_288 rfl rfl rfl A14 rfl ?_
      by_cases c15 : u8.toInt ≤ x1.toInt
      · refine xi_cmt (pc' := 343) kc_35_291 rfl (xc_ge_t (X := x1.toInt) (Y := u8.toInt) rfl rfl (by omega)) ?_
        refine xi_aload_n (pc' := 344) (x := 115) kc_35_343 rfl rfl ?_
        refine xi_iconst (pc' := 345) (v := 0) kc_35_344 rfl rfl ?_
        refine xi_putfield (pc' := 348) (fs' := [.int u1, .int u2, .ref 116, .ref 117, .ref 118, .ref 119, .ref 120, .ref 121, .ref 122, .ref 123, .ref 124, .ref 125, .ref 126, .ref 127, .ref 128, .ref 129, .int u3, .ref 130, .int u4, .ref 131, .ref 132, .ref 133, .ref 134, .int u5, .ref 135, .ref 136, .ref 137, .ref 138, .ref 139, .ref 140, .ref 141, .ref 142, .int u6, .int u7, .int u8, .ref 143, .ref 144, .ref 145, .ref 146, .ref 147, .ref 148, .int 0, .ref 149, .ref 150, .ref 151, .int u10, .ref 152, .ref 153, .ref 154, .ref 155, .ref 156, .ref 157, .ref 158, .ref 159, .int u11, .ref 160, .int u12, .ref 161, .ref 162, .ref 163, .ref 164, .int u13, .ref 165, .ref 166]) kc_35_345 rfl rfl rfl A14 rfl rfl rfl (Nat.le_of_ble_eq_true rfl) rfl (fun hh17 eh16 => ?_)
        have K18 := xk_pf (k := 41) (v := 0) K (xk_wf rfl) xD_115 A14 rfl (by first | omega | decide) (by first | omega | decide) eh16 rfl
        refine xi_return kc_35_348 mr_35 ?_
        exact kk hh17 (fun v e => by have e2 := xl_val (u := u2) eh16.1 rfl e; subst e2; omega) K18
      · refine xi_cmf (pc' := 294) kc_35_291 rfl (xc_ge_f (X := x1.toInt) (Y := u8.toInt) rfl rfl (by omega)) ?_
        refine xi_aload_n (pc' := 295) (x := 115) kc_35_294 rfl rfl ?_
        refine xi_getfield (pc' := 298) (v := .ref 147) kc_35_295 rfl rfl rfl A14 rfl ?_
        refine xi_iload_n (pc' := 299) (x := x1) kc_35_298 rfl rfl ?_
        obtain ⟨y19, A19, hy19, ry19⟩ := xk_arr K.1 xD_147
        obtain ⟨v20, ev20, bv20, dv20⟩ := xj_get hy19 ry19 (i := x1) (by omega) (by omega)
        refine xi_iaload (pc' := 300) (v := v20) kc_35_299 rfl A19 (by decide) rfl (xi_in (by omega) (by rw [hy19]; omega)) ev20 ?_
        refine xi_aload_n (pc' := 301) (x := 115) kc_35_300 rfl rfl ?_
        refine xi_getfield (pc' := 304) (v := .int u2) kc_35_301 rfl rfl rfl A14 rfl ?_
        by_cases c21 : v20.toInt = u2.toInt
        · refine xi_cmf (pc' := 307) kc_35_304 rfl (xc_ne_f (X := v20.toInt) (Y := u2.toInt) rfl rfl (by omega)) ?_
          refine xi_aload_n (pc' := 308) (x := 115) kc_35_307 rfl rfl ?_
          refine xi_aload_n (pc' := 309) (x := 115) kc_35_308 rfl rfl ?_
          refine xi_getfield (pc' := 312) (v := .ref 143) kc_35_309 rfl rfl rfl A14 rfl ?_
          refine xi_iload_n (pc' := 313) (x := x1) kc_35_312 rfl rfl ?_
          obtain ⟨y22, A22, hy22, ry22⟩ := xk_arr K.1 xD_143
          obtain ⟨v23, ev23, bv23, dv23⟩ := xj_get hy22 ry22 (i := x1) (by omega) (by omega)
          refine xi_iaload (pc' := 314) (v := v23) kc_35_313 rfl A22 (by decide) rfl (xi_in (by omega) (by rw [hy22]; omega)) ev23 ?_
          refine xi_aload_n (pc' := 315) (x := 115) kc_35_314 rfl rfl ?_
          refine xi_getfield (pc' := 318) (v := .ref 144) kc_35_315 rfl rfl rfl A14 rfl ?_
          refine xi_iload_n (pc' := 319) (x := x1) kc_35_318 rfl rfl ?_
          obtain ⟨y24, A24, hy24, ry24⟩ := xk_arr K.1 xD_144
          obtain ⟨v25, ev25, bv25, dv25⟩ := xj_get hy24 ry24 (i := x1) (by omega) (by omega)
          refine xi_iaload (pc' := 320) (v := v25) kc_35_319 rfl A24 (by decide) rfl (xi_in (by omega) (by rw [hy24]; omega)) ev25 ?_
          by_cases c26 : v25.toInt = 0
          · refine xi_iff (pc' := 323) kc_35_320 rfl (xc_ne_f (X := v25.toInt) (Y := 0) rfl (by decide) (by omega)) ?_
            refine xi_iconst (pc' := 324) (v := 4) kc_35_323 rfl rfl ?_
            refine xi_goto (pc' := 328) kc_35_324 rfl ?_
            refine xi_aload_n (pc' := 329) (x := 115) kc_35_328 rfl rfl ?_
            refine xi_getfield (pc' := 332) (v := .ref 148) kc_35_329 rfl rfl rfl A14 rfl ?_
            refine xi_iload_n (pc' := 333) (x := x1) kc_35_332 rfl rfl ?_
            obtain ⟨y27, A27, hy27, ry27⟩ := xk_arr K.1 xD_148
            obtain ⟨v28, ev28, bv28, dv28⟩ := xj_get hy27 ry27 (i := x1) (by omega) (by omega)
            refine xi_iaload (pc' := 334) (v := v28) kc_35_333 rfl A27 (by decide) rfl (xi_in (by omega) (by rw [hy27]; omega)) ev28 ?_
            refine xi_virtual (mj := 14) (as := [.int v23, .int 4, .int v28]) (st1 := []) (lv0 := [(0, .ref 115), (1, .int v23), (2, .int 4), (3, .int v28)]) kc_35_334 rfl rfl rfl rfl rfl A14 (Nat.le_of_ble_eq_true rfl) (hJ _ _ _ _ (by decide)) (xm_le ml_14 rfl) rfl ?_
            have zc4 : (4 : Int32).toInt = 4 := by decide
            refine mt_14_0 hJ hov1 hov2 (d := d + 3) (x1 := v23) (x2 := 4) (x3 := v28) K.1 (by first | omega | decide) (by first | omega | decide) (fun hh30 K31 => ?_)
            have K32 := xk_tr K K31 rfl
            obtain ⟨u33, u34, u35, u36, u37, u38, u39, u40, u41, u42, u43, u44, u45, bu33, bu34, bu35, bu36, bu37, bu38, bu39, bu40, bu41, bu42, bu43, bu44, bu45, A46⟩ := xq_115 K32.1
            have e47 : u2 = u34 := xk_eqi (q := 1) K31 rfl A14 A46 rfl rfl
            subst e47
            show xw J ov (d + 5) 35 (337, [(0, .ref 115), (1, .int x1)], [], hh30) _
            obtain ⟨v48, ev48⟩ : ∃ q : Int32, x1 + 1 = q := ⟨_, rfl⟩
            have zv48 : v48.toInt = (x1.toInt + 1) := by rw [← ev48]; exact (xz_add (X := x1.toInt) (Y := 1) rfl (by decide) (by omega) (by omega)).trans (by omega)
            refine xi_iinc (pc' := 340) (x := x1) (v := v48) (lv' := [(1, .int v48), (0, .ref 115)]) kc_35_337 rfl rfl ev48 rfl (xm_lt ml_35 rfl) ?_
            refine xi_goto (pc' := 286) kc_35_340 rfl ?_
            refine xw_lv (b := [(0, .ref 115), (1, .int v48)]) (lvS_cons (lvS_cons (lvS_nil (show ([1, 0] : List Nat).Nodup by decide)) rfl) rfl) ?_
            exact i5 v48 hh30 (by omega) (fun v e => by have e2 := xl_val (u := u2) A46 rfl e; subst e2; omega) K32 (by omega)
          · refine xi_ift (pc' := 327) kc_35_320 rfl (xc_ne_t (X := v25.toInt) (Y := 0) rfl (by decide) (by omega)) ?_
            refine xi_iconst (pc' := 328) (v := 2) kc_35_327 rfl rfl ?_
            refine xi_aload_n (pc' := 329) (x := 115) kc_35_328 rfl rfl ?_
            refine xi_getfield (pc' := 332) (v := .ref 148) kc_35_329 rfl rfl rfl A14 rfl ?_
            refine xi_iload_n (pc' := 333) (x := x1) kc_35_332 rfl rfl ?_
            obtain ⟨y49, A49, hy49, ry49⟩ := xk_arr K.1 xD_148
            obtain ⟨v50, ev50, bv50, dv50⟩ := xj_get hy49 ry49 (i := x1) (by omega) (by omega)
            refine xi_iaload (pc' := 334) (v := v50) kc_35_333 rfl A49 (by decide) rfl (xi_in (by omega) (by rw [hy49]; omega)) ev50 ?_
            refine xi_virtual (mj := 14) (as := [.int v23, .int 2, .int v50]) (st1 := []) (lv0 := [(0, .ref 115), (1, .int v23), (2, .int 2), (3, .int v50)]) kc_35_334 rfl rfl rfl rfl rfl A14 (Nat.le_of_ble_eq_true rfl) (hJ _ _ _ _ (by decide)) (xm_le ml_14 rfl) rfl ?_
            have zc2 : (2 : Int32).toInt = 2 := by decide
            refine mt_14_0 hJ hov1 hov2 (d := d + 3) (x1 := v23) (x2 := 2) (x3 := v50) K.1 (by first | omega | decide) (by first | omega | decide) (fun hh52 K53 => ?_)
            have K54 := xk_tr K K53 rfl
            obtain ⟨u55, u56, u57, u58, u59, u60, u61, u62, u63, u64, u65, u66, u67, bu55, bu56, bu57, bu58, bu59, bu60, bu61, bu62, bu63, bu64, bu65, bu66, bu67, A68⟩ := xq_115 K54.1
            have e69 : u2 = u56 := xk_eqi (q := 1) K53 rfl A14 A68 rfl rfl
            subst e69
            show xw J ov (d + 5) 35 (337, [(0, .ref 115), (1, .int x1)], [], hh52) _
            obtain ⟨v70, ev70⟩ : ∃ q : Int32, x1 + 1 = q := ⟨_, rfl⟩
            have zv70 : v70.toInt = (x1.toInt + 1) := by rw [← ev70]; exact (xz_add (X := x1.toInt) (Y := 1) rfl (by decide) (by omega) (by omega)).trans (by omega)
            refine xi_iinc (pc' := 340) (x := x1) (v := v70) (lv' := [(1, .int v70), (0, .ref 115)]) kc_35_337 rfl rfl ev70 rfl (xm_lt ml_35 rfl) ?_
            refine xi_goto (pc' := 286) kc_35_340 rfl ?_
            refine xw_lv (b := [(0, .ref 115), (1, .int v70)]) (lvS_cons (lvS_cons (lvS_nil (show ([1, 0] : List Nat).Nodup by decide)) rfl) rfl) ?_
            exact i5 v70 hh52 (by omega) (fun v e => by have e2 := xl_val (u := u2) A68 rfl e; subst e2; omega) K54 (by omega)
        · refine xi_cmt (pc' := 337) kc_35_304 rfl (xc_ne_t (X := v20.toInt) (Y := u2.toInt) rfl rfl (by omega)) ?_
          obtain ⟨v71, ev71⟩ : ∃ q : Int32, x1 + 1 = q := ⟨_, rfl⟩
          have zv71 : v71.toInt = (x1.toInt + 1) := by rw [← ev71]; exact (xz_add (X := x1.toInt) (Y := 1) rfl (by decide) (by omega) (by omega)).trans (by omega)
          refine xi_iinc (pc' := 340) (x := x1) (v := v71) (lv' := [(1, .int v71), (0, .ref 115)]) kc_35_337 rfl rfl ev71 rfl (xm_lt ml_35 rfl) ?_
          refine xi_goto (pc' := 286) kc_35_340 rfl ?_
          refine xw_lv (b := [(0, .ref 115), (1, .int v71)]) (lvS_cons (lvS_cons (lvS_nil (show ([1, 0] : List Nat).Nodup by decide)) rfl) rfl) ?_
          exact i5 v71 h (by omega) (fun v e => by have e2 := xl_val (u := u2) A14 rfl e; subst e2; omega) K (by omega)
set_option maxHeartbeats 4000000 in
theorem mt_35_0 {J : xe_J} {ov : List (List Int32)} (hJ : ∀ d mj as h, mj ≠ xe_loff → J d mj as h = none) (hov1 : ov[1]? = some [10, 0, 0, 0, 0, 0]) (hov2 : ov[2]? = some [99, 30, 50, 50, 1, 99999]) {d : Nat} {Q : Option Value → xe_H → Prop} {h : xe_H} {u0 : Int32} (T : xt h) (bgu0 : (0 ≤ u0.toInt ∧ u0.toInt ≤ 599)) (gi0 : (∀ v : Int32, xl h (115, 1) = some (.inl (.int v)) → v.toInt + (-1) * u0.toInt + 0 = 0)) (kk : (∀ h' : xe_H, (∀ v : Int32, xl h' (115, 1) = some (.inl (.int v)) → v.toInt + (-1) * u0.toInt + (-1) = 0) → xk [(0, 9), (83, 0), (6, 0), (123, 0), (9, 0), (124, 0), (7, 0), (10, 0), (5, 0), (8, 0)] h h' → Q none h')) : xw J ov (d + 5) 35 (0, [(0, .ref 115)], [], h) Q := by
  have K : xk [(0, 9), (83, 0), (6, 0), (123, 0), (9, 0), (124, 0), (7, 0), (10, 0), (5, 0), (8, 0)] h h := xk_re T
  obtain ⟨u1, u2, u3, u4, u5, u6, u7, u8, u9, u10, u11, u12, u13, bu1, bu2, bu3, bu4, bu5, bu6, bu7, bu8, bu9, bu10, bu11, bu12, bu13, A14⟩ := xq_115 K.1
  have gi0' := gi0 _ (xl_of A14 rfl)
  refine xi_iconst (pc' := 1) (v := 0) kc_35_0 rfl rfl ?_
  refine xi_istore_n (pc' := 2) (lv' := [(1, .int 0), (0, .ref 115)]) kc_35_1 rfl rfl (xm_lt ml_35 rfl) ?_
  have zc0 : (0 : Int32).toInt = 0 := by decide
  refine xw_lv (b := [(0, .ref 115), (1, .int 0)]) (lvS_cons (lvS_cons (lvS_nil (show ([1, 0] : List Nat).Nodup by decide)) rfl) rfl) ?_
  exact (lp_35_0 hJ hov1 hov2 (d := d) (hb := h) bgu0 (fun h9 o90 K9 => kk h9 o90 (xk_tr K K9 rfl)) 82).1 0 h (by omega) (fun v e => by have e2 := xl_val (u := u2) A14 rfl e; subst e2; omega) (xk_re K.1) (by omega)
set_option maxHeartbeats 4000000 in
theorem lp_34_0 {J : xe_J} {ov : List (List Int32)} (hJ : ∀ d mj as h, mj ≠ xe_loff → J d mj as h = none) (hov1 : ov[1]? = some [10, 0, 0, 0, 0, 0]) (hov2 : ov[2]? = some [99, 30, 50, 50, 1, 99999]) {d : Nat} {Q : Option Value → xe_H → Prop} {hb : xe_H} {u0 : Int32} (bgu0 : (0 ≤ u0.toInt ∧ u0.toInt ≤ 600)) (kk : (∀ (r : Int32) (h' : xe_H), ((-6) ≤ r.toInt ∧ r.toInt ≤ 600) → xk [(0, 9), (83, 0), (6, 0), (123, 0), (9, 0), (124, 0), (7, 0), (10, 0), (5, 0), (8, 0)] hb h' → Q (some (.int r)) h')) : ∀ m : Nat, (∀ (x1 : Int32) (x2 : Int32) (h : xe_H), (1 ≤ x1.toInt ∧ x1.toInt ≤ 600) → (0 ≤ x2.toInt ∧ x2.toInt ≤ 600) → (∀ v : Int32, xl h (115, 1) = some (.inl (.int v)) → v.toInt + (-1) * u0.toInt + (-1) * x2.toInt + 0 = 0) → (x2.toInt + (-1) * x1.toInt + 0 ≤ 0) → (x1.toInt + u0.toInt + (-600) ≤ 0) → xk [(0, 9), (83, 0), (6, 0), (123, 0), (9, 0), (124, 0), (7, 0), (10, 0), (5, 0), (8, 0)] hb h → (-1) * x2.toInt + 600 < (m : Int) → xw J ov (d + 6) 34 (38, [(0, .ref 115), (1, .int x1), (2, .int x2)], [], h) Q) := by
  intro m
  induction m with
  | zero =>
    intro x1 x2 h b1 b2 gh0 gh1 gh2 K hm; exfalso; omega
  | succ m ih =>
    have i0 := ih
    intro x1 x2 h b1 b2 gh0 gh1 gh2 K hm
    obtain ⟨u1, u2, u3, u4, u5, u6, u7, u8, u9, u10, u11, u12, u13, bu1, bu2, bu3, bu4, bu5, bu6, bu7, bu8, bu9, bu10, bu11, bu12, bu13, A14⟩ := xq_115 K.1
    have gh0' := gh0 _ (xl_of A14 rfl)
    refine xi_iload_n (pc' := 39) (x := x2) kc_34_38 rfl rfl ?_
    refine xi_iload_n (pc' := 40) (x := x1) kc_34_39 rfl rfl ?_
    by_cases c15 : x1.toInt ≤ x2.toInt
    · refine xi_cmt (pc' := 53) kc_34_40 rfl (xc_ge_t (X := x2.toInt) (Y := x1.toInt) rfl rfl (by omega)) ?_
      refine xi_aload_n (pc' := 54) (x := 115) kc_34_53 rfl rfl ?_
      refine xi_getfield (pc' := 57) (v := .int u2) kc_34_54 rfl rfl rfl A14 rfl ?_
      refine xi_ireturn kc_34_57 mr_34 rfl ?_
      exact kk u2 h (by omega) K
    · refine xi_cmf (pc' := 43) kc_34_40 rfl (xc_ge_f (X := x2.toInt) (Y := x1.toInt) rfl rfl (by omega)) ?_
      refine xi_aload_n (pc' := 44) (x := 115) kc_34_43 rfl rfl ?_
      refine xi_virtual (mj := 35) (as := []) (st1 := []) (lv0 := [(0, .ref 115)]) kc_34_44 rfl rfl rfl rfl rfl A14 (Nat.le_of_ble_eq_true rfl) (hJ _ _ _ _ (by decide)) (xm_le ml_35 rfl) rfl ?_
      refine mt_35_0 hJ hov1 hov2 (d := d) (u0 := u2) K.1 (by omega) (fun v e => by have e2 := xl_val (u := u2) A14 rfl e; subst e2; omega) (fun hh17 o19 K18 => ?_)
      have K20 := xk_tr K K18 rfl
      obtain ⟨u21, u22, u23, u24, u25, u26, u27, u28, u29, u30, u31, u32, u33, bu21, bu22, bu23, bu24, bu25, bu26, bu27, bu28, bu29, bu30, bu31, bu32, bu33, A34⟩ := xq_115 K20.1
      have o19' := o19 _ (xl_of A34 rfl)
      show xw J ov (d + 6) 34 (47, [(0, .ref 115), (1, .int x1), (2, .int x2)], [], hh17) _
      obtain ⟨v35, ev35⟩ : ∃ q : Int32, x2 + 1 = q := ⟨_, rfl⟩
      have zv35 : v35.toInt = (x2.toInt + 1) := by rw [← ev35]; exact (xz_add (X := x2.toInt) (Y := 1) rfl (by decide) (by omega) (by omega)).trans (by omega)
      refine xi_iinc (pc' := 50) (x := x2) (v := v35) (lv' := [(2, .int v35), (0, .ref 115), (1, .int x1)]) kc_34_47 rfl rfl ev35 rfl (xm_lt ml_34 rfl) ?_
      refine xi_goto (pc' := 38) kc_34_50 rfl ?_
      refine xw_lv (b := [(0, .ref 115), (1, .int x1), (2, .int v35)]) (lvS_cons (lvS_cons (lvS_cons (lvS_nil (show ([2, 0, 1] : List Nat).Nodup by decide)) rfl) rfl) rfl) ?_
      exact i0 x1 v35 hh17 (by omega) (by omega) (fun v e => by have e2 := xl_val (u := u22) A34 rfl e; subst e2; omega) (by first | omega | decide) (by first | omega | decide) K20 (by omega)
set_option maxHeartbeats 4000000 in
theorem mt_34_0 {J : xe_J} {ov : List (List Int32)} (hJ : ∀ d mj as h, mj ≠ xe_loff → J d mj as h = none) (hov1 : ov[1]? = some [10, 0, 0, 0, 0, 0]) (hov2 : ov[2]? = some [99, 30, 50, 50, 1, 99999]) {d : Nat} {Q : Option Value → xe_H → Prop} {h : xe_H} {x1 : Int32} {u0 : Int32} (T : xt h) (bgu0 : (0 ≤ u0.toInt ∧ u0.toInt ≤ 600)) (gi0 : (∀ v : Int32, xl h (115, 1) = some (.inl (.int v)) → v.toInt + (-1) * u0.toInt + 0 = 0)) (kk : (∀ (r : Int32) (h' : xe_H), ((-6) ≤ r.toInt ∧ r.toInt ≤ 600) → xk [(0, 9), (83, 0), (6, 0), (123, 0), (9, 0), (124, 0), (7, 0), (10, 0), (5, 0), (8, 0)] h h' → Q (some (.int r)) h')) : xw J ov (d + 6) 34 (0, [(0, .ref 115), (1, .int x1)], [], h) Q := by
  have K : xk [(0, 9), (83, 0), (6, 0), (123, 0), (9, 0), (124, 0), (7, 0), (10, 0), (5, 0), (8, 0)] h h := xk_re T
  have rx1 := xc_rng x1
  obtain ⟨u1, u2, u3, u4, u5, u6, u7, u8, u9, u10, u11, u12, u13, bu1, bu2, bu3, bu4, bu5, bu6, bu7, bu8, bu9, bu10, bu11, bu12, bu13, A14⟩ := xq_115 K.1
  have gi0' := gi0 _ (xl_of A14 rfl)
  refine xi_aload_n (pc' := 1) (x := 115) kc_34_0 rfl rfl ?_
  refine xi_iconst (pc' := 2) (v := 0) kc_34_1 rfl rfl ?_
  refine xi_putfield (pc' := 5) (fs' := [.int 0, .int u2, .ref 116, .ref 117, .ref 118, .ref 119, .ref 120, .ref 121, .ref 122, .ref 123, .ref 124, .ref 125, .ref 126, .ref 127, .ref 128, .ref 129, .int u3, .ref 130, .int u4, .ref 131, .ref 132, .ref 133, .ref 134, .int u5, .ref 135, .ref 136, .ref 137, .ref 138, .ref 139, .ref 140, .ref 141, .ref 142, .int u6, .int u7, .int u8, .ref 143, .ref 144, .ref 145, .ref 146, .ref 147, .ref 148, .int u9, .ref 149, .ref 150, .ref 151, .int u10, .ref 152, .ref 153, .ref 154, .ref 155, .ref 156, .ref 157, .ref 158, .ref 159, .int u11, .ref 160, .int u12, .ref 161, .ref 162, .ref 163, .ref 164, .int u13, .ref 165, .ref 166]) kc_34_2 rfl rfl rfl A14 rfl rfl rfl (Nat.le_of_ble_eq_true rfl) rfl (fun hh16 eh15 => ?_)
  have K17 := xk_pf (k := 0) (v := 0) K (xk_wf rfl) xD_115 A14 rfl (by first | omega | decide) (by first | omega | decide) eh15 rfl
  refine xi_iload_n (pc' := 6) (x := x1) kc_34_5 rfl rfl ?_
  refine xi_iconst (pc' := 7) (v := 1) kc_34_6 rfl rfl ?_
  by_cases c18 : 1 ≤ x1.toInt
  · refine xi_cmt (pc' := 17) kc_34_7 rfl (xc_ge_t (X := x1.toInt) (Y := 1) rfl (by decide) (by omega)) ?_
    refine xi_iload_n (pc' := 18) (x := x1) kc_34_17 rfl rfl ?_
    refine xi_sipush (pc' := 21) (v := 600) kc_34_18 rfl rfl ?_
    refine xi_aload_n (pc' := 22) (x := 115) kc_34_21 rfl rfl ?_
    refine xi_getfield (pc' := 25) (v := .int u2) kc_34_22 rfl rfl rfl eh15.1 rfl ?_
    obtain ⟨v19, ev19⟩ : ∃ q : Int32, 600 - u2 = q := ⟨_, rfl⟩
    have zv19 : v19.toInt = ((-1) * u2.toInt + 600) := by rw [← ev19]; exact (xz_sub (X := 600) (Y := u2.toInt) (by decide) rfl (by omega) (by omega)).trans (by omega)
    refine xi_isub (pc' := 26) (v := v19) kc_34_25 rfl ev19 ?_
    by_cases c20 : x1.toInt ≤ ((-1) * u2.toInt + 600)
    · refine xi_cmt (pc' := 36) kc_34_26 rfl (xc_le_t (X := x1.toInt) (Y := ((-1) * u2.toInt + 600)) rfl zv19 (by omega)) ?_
      refine xi_iconst (pc' := 37) (v := 0) kc_34_36 rfl rfl ?_
      refine xi_istore_n (pc' := 38) (lv' := [(2, .int 0), (0, .ref 115), (1, .int x1)]) kc_34_37 rfl rfl (xm_lt ml_34 rfl) ?_
      have zc0 : (0 : Int32).toInt = 0 := by decide
      refine xw_lv (b := [(0, .ref 115), (1, .int x1), (2, .int 0)]) (lvS_cons (lvS_cons (lvS_cons (lvS_nil (show ([2, 0, 1] : List Nat).Nodup by decide)) rfl) rfl) rfl) ?_
      exact (lp_34_0 hJ hov1 hov2 (d := d) (hb := hh16) bgu0 (fun r9 h9 b9 K9 => kk r9 h9 b9 (xk_tr K17 K9 rfl)) 601) x1 0 hh16 (by omega) (by omega) (fun v e => by have e2 := xl_val (u := u2) eh15.1 rfl e; subst e2; omega) (by first | omega | decide) (by first | omega | decide) (xk_re K17.1) (by omega)
    · refine xi_cmf (pc' := 29) kc_34_26 rfl (xc_le_f (X := x1.toInt) (Y := ((-1) * u2.toInt + 600)) rfl zv19 (by omega)) ?_
      refine xi_aload_n (pc' := 30) (x := 115) kc_34_29 rfl rfl ?_
      refine xi_bipush (pc' := 32) (v := (-6)) kc_34_30 rfl rfl ?_
      refine xi_virtual (mj := 12) (as := [.int (-6)]) (st1 := []) (lv0 := [(0, .ref 115), (1, .int (-6))]) kc_34_32 rfl rfl rfl rfl rfl eh15.1 (Nat.le_of_ble_eq_true rfl) (hJ _ _ _ _ (by decide)) (xm_le ml_12 rfl) rfl ?_
      refine xi_aload_n (pc' := 1) (x := 115) kc_12_0 rfl rfl ?_
      refine xi_getfield (pc' := 4) (v := .ref 140) kc_12_1 rfl rfl rfl eh15.1 rfl ?_
      refine xi_iload_n (pc' := 5) (x := (-6)) kc_12_4 rfl rfl ?_
      refine xi_ineg (pc' := 6) (v := 6) kc_12_5 rfl rfl ?_
      refine xi_dup2 (pc' := 7) kc_12_6 rfl ⟨rfl, rfl⟩ ?_
      obtain ⟨y21, A21, hy21, ry21⟩ := xk_arr K17.1 xD_140
      obtain ⟨v22, ev22, bv22, dv22⟩ := xj_get hy21 ry21 (i := 6) (by decide) (by decide)
      refine xi_iaload (pc' := 8) (v := v22) kc_12_7 rfl A21 (by decide) rfl (xi_in (by decide) (by rw [hy21]; decide)) ev22 ?_
      refine xi_iconst (pc' := 9) (v := 1) kc_12_8 rfl rfl ?_
      obtain ⟨v23, ev23⟩ : ∃ q : Int32, (v22 : Int32) + 1 = q := ⟨_, rfl⟩
      have rv23 := xc_rng v23
      refine xi_iadd (pc' := 10) (v := v23) kc_12_9 rfl ev23 ?_
      obtain ⟨y24, s24, hy24, ry24⟩ := xj_set (v := v23) hy21 ry21 6 (by first | omega | decide) (by first | omega | decide)
      refine xi_iastore (pc' := 11) (x' := y24) kc_12_10 rfl A21 rfl (xi_in (by decide) (by rw [hy21]; decide)) s24 (fun hh24 eh24 => ?_)
      have K25 := xk_pa K17 (xk_wa rfl) xD_140 hy24 ry24 eh24
      refine xi_iload_n (pc' := 12) (x := (-6)) kc_12_11 rfl rfl ?_
      refine xi_ireturn kc_12_12 mr_12 rfl ?_
      show xw J ov (d + 6) 34 (35, [(0, .ref 115), (1, .int x1)], [.int (-6)], hh24) _
      refine xi_ireturn kc_34_35 mr_34 rfl ?_
      have zcm6 : ((-6) : Int32).toInt = (-6) := by decide
      exact kk (-6) hh24 (by omega) K25
  · refine xi_cmf (pc' := 10) kc_34_7 rfl (xc_ge_f (X := x1.toInt) (Y := 1) rfl (by decide) (by omega)) ?_
    refine xi_aload_n (pc' := 11) (x := 115) kc_34_10 rfl rfl ?_
    refine xi_bipush (pc' := 13) (v := (-4)) kc_34_11 rfl rfl ?_
    refine xi_virtual (mj := 12) (as := [.int (-4)]) (st1 := []) (lv0 := [(0, .ref 115), (1, .int (-4))]) kc_34_13 rfl rfl rfl rfl rfl eh15.1 (Nat.le_of_ble_eq_true rfl) (hJ _ _ _ _ (by decide)) (xm_le ml_12 rfl) rfl ?_
    refine xi_aload_n (pc' := 1) (x := 115) kc_12_0 rfl rfl ?_
    refine xi_getfield (pc' := 4) (v := .ref 140) kc_12_1 rfl rfl rfl eh15.1 rfl ?_
    refine xi_iload_n (pc' := 5) (x := (-4)) kc_12_4 rfl rfl ?_
    refine xi_ineg (pc' := 6) (v := 4) kc_12_5 rfl rfl ?_
    refine xi_dup2 (pc' := 7) kc_12_6 rfl ⟨rfl, rfl⟩ ?_
    obtain ⟨y26, A26, hy26, ry26⟩ := xk_arr K17.1 xD_140
    obtain ⟨v27, ev27, bv27, dv27⟩ := xj_get hy26 ry26 (i := 4) (by decide) (by decide)
    refine xi_iaload (pc' := 8) (v := v27) kc_12_7 rfl A26 (by decide) rfl (xi_in (by decide) (by rw [hy26]; decide)) ev27 ?_
    refine xi_iconst (pc' := 9) (v := 1) kc_12_8 rfl rfl ?_
    obtain ⟨v28, ev28⟩ : ∃ q : Int32, (v27 : Int32) + 1 = q := ⟨_, rfl⟩
    have rv28 := xc_rng v28
    refine xi_iadd (pc' := 10) (v := v28) kc_12_9 rfl ev28 ?_
    obtain ⟨y29, s29, hy29, ry29⟩ := xj_set (v := v28) hy26 ry26 4 (by first | omega | decide) (by first | omega | decide)
    refine xi_iastore (pc' := 11) (x' := y29) kc_12_10 rfl A26 rfl (xi_in (by decide) (by rw [hy26]; decide)) s29 (fun hh29 eh29 => ?_)
    have K30 := xk_pa K17 (xk_wa rfl) xD_140 hy29 ry29 eh29
    refine xi_iload_n (pc' := 12) (x := (-4)) kc_12_11 rfl rfl ?_
    refine xi_ireturn kc_12_12 mr_12 rfl ?_
    show xw J ov (d + 6) 34 (16, [(0, .ref 115), (1, .int x1)], [.int (-4)], hh29) _
    refine xi_ireturn kc_34_16 mr_34 rfl ?_
    have zcm4 : ((-4) : Int32).toInt = (-4) := by decide
    exact kk (-4) hh29 (by omega) K30
set_option maxHeartbeats 4000000 in
theorem lp_44_0 {J : xe_J} {ov : List (List Int32)} (hJ : ∀ d mj as h, mj ≠ xe_loff → J d mj as h = none) (hov1 : ov[1]? = some [10, 0, 0, 0, 0, 0]) (hov2 : ov[2]? = some [99, 30, 50, 50, 1, 99999]) {d : Nat} {Q : Option Value → xe_H → Prop} {hb : xe_H} (kk : (∀ h' : xe_H, xk [(0, 9), (115, 1), (83, 0), (6, 0), (123, 0), (9, 0), (124, 0), (7, 0), (10, 0), (5, 0), (8, 0)] hb h' → Q none h')) : ∀ m : Nat, (∀ (x1 : Int32) (x2 : Int32) (x3 : Int32) (h : xe_H), (0 ≤ x3.toInt ∧ x3.toInt ≤ 600) → xk [(0, 9), (115, 1), (83, 0), (6, 0), (123, 0), (9, 0), (124, 0), (7, 0), (10, 0), (5, 0), (8, 0)] hb h → (-1) * x3.toInt + 600 < (m : Int) → xw J ov (d + 1) 44 (6, [(0, .ref 115), (1, .int x1), (2, .int x2), (3, .int x3)], [], h) Q) := by
  intro m
  induction m with
  | zero =>
    intro x1 x2 x3 h b3 K hm; have rx1 := xc_rng x1; have rx2 := xc_rng x2; exfalso; omega
  | succ m ih =>
    have i0 := ih
    intro x1 x2 x3 h b3 K hm
    have rx1 := xc_rng x1
    have rx2 := xc_rng x2
    refine xi_iload_n (pc' := 7) (x := x3) kc_44_6 rfl rfl ?_
    refine xi_sipush (pc' := 10) (v := 600) kc_44_7 rfl rfl ?_
    by_cases c1 : 600 ≤ x3.toInt
    · refine xi_cmt (pc' := 77) kc_44_10 rfl (xc_ge_t (X := x3.toInt) (Y := 600) rfl (by decide) (by omega)) ?_
      refine xi_return kc_44_77 mr_44 ?_
      exact kk h K
    · refine xi_cmf (pc' := 13) kc_44_10 rfl (xc_ge_f (X := x3.toInt) (Y := 600) rfl (by decide) (by omega)) ?_
      refine xi_aload_n (pc' := 14) (x := 115) kc_44_13 rfl rfl ?_
      obtain ⟨u2, u3, u4, u5, u6, u7, u8, u9, u10, u11, u12, u13, u14, bu2, bu3, bu4, bu5, bu6, bu7, bu8, bu9, bu10, bu11, bu12, bu13, bu14, A15⟩ := xq_115 K.1
      refine xi_getfield (pc' := 17) (v := .ref 123) kc_44_14 rfl rfl rfl A15 rfl ?_
      refine xi_iload_n (pc' := 18) (x := x3) kc_44_17 rfl rfl ?_
      obtain ⟨y16, A16, hy16, ry16⟩ := xk_arr K.1 xD_123
      obtain ⟨v17, ev17, bv17, dv17⟩ := xj_get hy16 ry16 (i := x3) (by omega) (by omega)
      refine xi_iaload (pc' := 19) (v := v17) kc_44_18 rfl A16 (by decide) rfl (xi_in (by omega) (by rw [hy16]; omega)) ev17 ?_
      refine xi_bipush (pc' := 21) (v := 99) kc_44_19 rfl rfl ?_
      by_cases c18 : v17.toInt = 99
      · refine xi_cmf (pc' := 24) kc_44_21 rfl (xc_ne_f (X := v17.toInt) (Y := 99) rfl (by decide) (by omega)) ?_
        refine xi_iload_n (pc' := 25) (x := x1) kc_44_24 rfl rfl ?_
        refine xi_goto (pc' := 34) kc_44_25 rfl ?_
        refine xi_istore_n (pc' := 35) (lv' := [(1, .int x1), (0, .ref 115), (2, .int x2), (3, .int x3)]) kc_44_34 rfl rfl (xm_lt ml_44 rfl) ?_
        refine xi_aload_n (pc' := 36) (x := 115) kc_44_35 rfl rfl ?_
        refine xi_getfield (pc' := 39) (v := .ref 124) kc_44_36 rfl rfl rfl A15 rfl ?_
        refine xi_iload_n (pc' := 40) (x := x3) kc_44_39 rfl rfl ?_
        obtain ⟨y19, A19, hy19, ry19⟩ := xk_arr K.1 xD_124
        obtain ⟨v20, ev20, bv20, dv20⟩ := xj_get hy19 ry19 (i := x3) (by omega) (by omega)
        refine xi_iaload (pc' := 41) (v := v20) kc_44_40 rfl A19 (by decide) rfl (xi_in (by omega) (by rw [hy19]; omega)) ev20 ?_
        refine xi_bipush (pc' := 43) (v := 99) kc_44_41 rfl rfl ?_
        by_cases c21 : v20.toInt = 99
        · refine xi_cmf (pc' := 46) kc_44_43 rfl (xc_ne_f (X := v20.toInt) (Y := 99) rfl (by decide) (by omega)) ?_
          refine xi_iload_n (pc' := 47) (x := x2) kc_44_46 rfl rfl ?_
          refine xi_goto (pc' := 56) kc_44_47 rfl ?_
          refine xi_istore_n (pc' := 57) (lv' := [(2, .int x2), (1, .int x1), (0, .ref 115), (3, .int x3)]) kc_44_56 rfl rfl (xm_lt ml_44 rfl) ?_
          refine xi_aload_n (pc' := 58) (x := 115) kc_44_57 rfl rfl ?_
          refine xi_getfield (pc' := 61) (v := .ref 150) kc_44_58 rfl rfl rfl A15 rfl ?_
          refine xi_iload_n (pc' := 62) (x := x3) kc_44_61 rfl rfl ?_
          refine xi_iload_n (pc' := 63) (x := x1) kc_44_62 rfl rfl ?_
          obtain ⟨y22, A22, hy22, ry22⟩ := xk_arr K.1 xD_150
          obtain ⟨y23, s23, hy23, ry23⟩ := xj_set (v := x1) hy22 ry22 x3 (by first | omega | decide) (by first | omega | decide)
          refine xi_iastore (pc' := 64) (x' := y23) kc_44_63 rfl A22 rfl (xi_in (by omega) (by rw [hy22]; omega)) s23 (fun hh23 eh23 => ?_)
          have K24 := xk_pa K (xk_wa rfl) xD_150 hy23 ry23 eh23
          refine xi_aload_n (pc' := 65) (x := 115) kc_44_64 rfl rfl ?_
          have A25 := ((eh23.2.1 115 (by decide)).trans A15)
          refine xi_getfield (pc' := 68) (v := .ref 151) kc_44_65 rfl rfl rfl A25 rfl ?_
          refine xi_iload_n (pc' := 69) (x := x3) kc_44_68 rfl rfl ?_
          refine xi_iload_n (pc' := 70) (x := x2) kc_44_69 rfl rfl ?_
          obtain ⟨y26, A26, hy26, ry26⟩ := xk_arr K24.1 xD_151
          obtain ⟨y27, s27, hy27, ry27⟩ := xj_set (v := x2) hy26 ry26 x3 (by first | omega | decide) (by first | omega | decide)
          refine xi_iastore (pc' := 71) (x' := y27) kc_44_70 rfl A26 rfl (xi_in (by omega) (by rw [hy26]; omega)) s27 (fun hh27 eh27 => ?_)
          have K28 := xk_pa K24 (xk_wa rfl) xD_151 hy27 ry27 eh27
          obtain ⟨v29, ev29⟩ : ∃ q : Int32, x3 + 1 = q := ⟨_, rfl⟩
          have zv29 : v29.toInt = (x3.toInt + 1) := by rw [← ev29]; exact (xz_add (X := x3.toInt) (Y := 1) rfl (by decide) (by omega) (by omega)).trans (by omega)
          refine xi_iinc (pc' := 74) (x := x3) (v := v29) (lv' := [(3, .int v29), (2, .int x2), (1, .int x1), (0, .ref 115)]) kc_44_71 rfl rfl ev29 rfl (xm_lt ml_44 rfl) ?_
          refine xi_goto (pc' := 6) kc_44_74 rfl ?_
          refine xw_lv (b := [(0, .ref 115), (1, .int x1), (2, .int x2), (3, .int v29)]) (lvS_cons (lvS_cons (lvS_cons (lvS_cons (lvS_nil (show ([3, 2, 1, 0] : List Nat).Nodup by decide)) rfl) rfl) rfl) rfl) ?_
          exact i0 x1 x2 v29 hh27 (by omega) K28 (by omega)
        · refine xi_cmt (pc' := 50) kc_44_43 rfl (xc_ne_t (X := v20.toInt) (Y := 99) rfl (by decide) (by omega)) ?_
          refine xi_aload_n (pc' := 51) (x := 115) kc_44_50 rfl rfl ?_
          refine xi_getfield (pc' := 54) (v := .ref 124) kc_44_51 rfl rfl rfl A15 rfl ?_
          refine xi_iload_n (pc' := 55) (x := x3) kc_44_54 rfl rfl ?_
          refine xi_iaload (pc' := 56) (v := v20) kc_44_55 rfl A19 (by decide) rfl (xi_in (by omega) (by rw [hy19]; omega)) ev20 ?_
          refine xi_istore_n (pc' := 57) (lv' := [(2, .int v20), (1, .int x1), (0, .ref 115), (3, .int x3)]) kc_44_56 rfl rfl (xm_lt ml_44 rfl) ?_
          refine xi_aload_n (pc' := 58) (x := 115) kc_44_57 rfl rfl ?_
          refine xi_getfield (pc' := 61) (v := .ref 150) kc_44_58 rfl rfl rfl A15 rfl ?_
          refine xi_iload_n (pc' := 62) (x := x3) kc_44_61 rfl rfl ?_
          refine xi_iload_n (pc' := 63) (x := x1) kc_44_62 rfl rfl ?_
          obtain ⟨y30, A30, hy30, ry30⟩ := xk_arr K.1 xD_150
          obtain ⟨y31, s31, hy31, ry31⟩ := xj_set (v := x1) hy30 ry30 x3 (by first | omega | decide) (by first | omega | decide)
          refine xi_iastore (pc' := 64) (x' := y31) kc_44_63 rfl A30 rfl (xi_in (by omega) (by rw [hy30]; omega)) s31 (fun hh31 eh31 => ?_)
          have K32 := xk_pa K (xk_wa rfl) xD_150 hy31 ry31 eh31
          refine xi_aload_n (pc' := 65) (x := 115) kc_44_64 rfl rfl ?_
          have A33 := ((eh31.2.1 115 (by decide)).trans A15)
          refine xi_getfield (pc' := 68) (v := .ref 151) kc_44_65 rfl rfl rfl A33 rfl ?_
          refine xi_iload_n (pc' := 69) (x := x3) kc_44_68 rfl rfl ?_
          refine xi_iload_n (pc' := 70) (x := v20) kc_44_69 rfl rfl ?_
          obtain ⟨y34, A34, hy34, ry34⟩ := xk_arr K32.1 xD_151
          obtain ⟨y35, s35, hy35, ry35⟩ := xj_set (v := v20) hy34 ry34 x3 (by first | omega | decide) (by first | omega | decide)
          refine xi_iastore (pc' := 71) (x' := y35) kc_44_70 rfl A34 rfl (xi_in (by omega) (by rw [hy34]; omega)) s35 (fun hh35 eh35 => ?_)
          have K36 := xk_pa K32 (xk_wa rfl) xD_151 hy35 ry35 eh35
          obtain ⟨v37, ev37⟩ : ∃ q : Int32, x3 + 1 = q := ⟨_, rfl⟩
          have zv37 : v37.toInt = (x3.toInt + 1) := by rw [← ev37]; exact (xz_add (X := x3.toInt) (Y := 1) rfl (by decide) (by omega) (by omega)).trans (by omega)
          refine xi_iinc (pc' := 74) (x := x3) (v := v37) (lv' := [(3, .int v37), (2, .int v20), (1, .int x1), (0, .ref 115)]) kc_44_71 rfl rfl ev37 rfl (xm_lt ml_44 rfl) ?_
          refine xi_goto (pc' := 6) kc_44_74 rfl ?_
          refine xw_lv (b := [(0, .ref 115), (1, .int x1), (2, .int v20), (3, .int v37)]) (lvS_cons (lvS_cons (lvS_cons (lvS_cons (lvS_nil (show ([3, 2, 1, 0] : List Nat).Nodup by decide)) rfl) rfl) rfl) rfl) ?_
          exact i0 x1 v20 v37 hh35 (by omega) K36 (by omega)
      · refine xi_cmt (pc' := 28) kc_44_21 rfl (xc_ne_t (X := v17.toInt) (Y := 99) rfl (by decide) (by omega)) ?_
        refine xi_aload_n (pc' := 29) (x := 115) kc_44_28 rfl rfl ?_
        refine xi_getfield (pc' := 32) (v := .ref 123) kc_44_29 rfl rfl rfl A15 rfl ?_
        refine xi_iload_n (pc' := 33) (x := x3) kc_44_32 rfl rfl ?_
        refine xi_iaload (pc' := 34) (v := v17) kc_44_33 rfl A16 (by decide) rfl (xi_in (by omega) (by rw [hy16]; omega)) ev17 ?_
        refine xi_istore_n (pc' := 35) (lv' := [(1, .int v17), (0, .ref 115), (2, .int x2), (3, .int x3)]) kc_44_34 rfl rfl (xm_lt ml_44 rfl) ?_
        refine xi_aload_n (pc' := 36) (x := 115) kc_44_35 rfl rfl ?_
        refine xi_getfield (pc' := 39) (v := .ref 124) kc_44_36 rfl rfl rfl A15 rfl ?_
        refine xi_iload_n (pc' := 40) (x := x3) kc_44_39 rfl rfl ?_
        obtain ⟨y38, A38, hy38, ry38⟩ := xk_arr K.1 xD_124
        obtain ⟨v39, ev39, bv39, dv39⟩ := xj_get hy38 ry38 (i := x3) (by omega) (by omega)
        refine xi_iaload (pc' := 41) (v := v39) kc_44_40 rfl A38 (by decide) rfl (xi_in (by omega) (by rw [hy38]; omega)) ev39 ?_
        refine xi_bipush (pc' := 43) (v := 99) kc_44_41 rfl rfl ?_
        by_cases c40 : v39.toInt = 99
        · refine xi_cmf (pc' := 46) kc_44_43 rfl (xc_ne_f (X := v39.toInt) (Y := 99) rfl (by decide) (by omega)) ?_
          refine xi_iload_n (pc' := 47) (x := x2) kc_44_46 rfl rfl ?_
          refine xi_goto (pc' := 56) kc_44_47 rfl ?_
          refine xi_istore_n (pc' := 57) (lv' := [(2, .int x2), (1, .int v17), (0, .ref 115), (3, .int x3)]) kc_44_56 rfl rfl (xm_lt ml_44 rfl) ?_
          refine xi_aload_n (pc' := 58) (x := 115) kc_44_57 rfl rfl ?_
          refine xi_getfield (pc' := 61) (v := .ref 150) kc_44_58 rfl rfl rfl A15 rfl ?_
          refine xi_iload_n (pc' := 62) (x := x3) kc_44_61 rfl rfl ?_
          refine xi_iload_n (pc' := 63) (x := v17) kc_44_62 rfl rfl ?_
          obtain ⟨y41, A41, hy41, ry41⟩ := xk_arr K.1 xD_150
          obtain ⟨y42, s42, hy42, ry42⟩ := xj_set (v := v17) hy41 ry41 x3 (by first | omega | decide) (by first | omega | decide)
          refine xi_iastore (pc' := 64) (x' := y42) kc_44_63 rfl A41 rfl (xi_in (by omega) (by rw [hy41]; omega)) s42 (fun hh42 eh42 => ?_)
          have K43 := xk_pa K (xk_wa rfl) xD_150 hy42 ry42 eh42
          refine xi_aload_n (pc' := 65) (x := 115) kc_44_64 rfl rfl ?_
          have A44 := ((eh42.2.1 115 (by decide)).trans A15)
          refine xi_getfield (pc' := 68) (v := .ref 151) kc_44_65 rfl rfl rfl A44 rfl ?_
          refine xi_iload_n (pc' := 69) (x := x3) kc_44_68 rfl rfl ?_
          refine xi_iload_n (pc' := 70) (x := x2) kc_44_69 rfl rfl ?_
          obtain ⟨y45, A45, hy45, ry45⟩ := xk_arr K43.1 xD_151
          obtain ⟨y46, s46, hy46, ry46⟩ := xj_set (v := x2) hy45 ry45 x3 (by first | omega | decide) (by first | omega | decide)
          refine xi_iastore (pc' := 71) (x' := y46) kc_44_70 rfl A45 rfl (xi_in (by omega) (by rw [hy45]; omega)) s46 (fun hh46 eh46 => ?_)
          have K47 := xk_pa K43 (xk_wa rfl) xD_151 hy46 ry46 eh46
          obtain ⟨v48, ev48⟩ : ∃ q : Int32, x3 + 1 = q := ⟨_, rfl⟩
          have zv48 : v48.toInt = (x3.toInt + 1) := by rw [← ev48]; exact (xz_add (X := x3.toInt) (Y := 1) rfl (by decide) (by omega) (by omega)).trans (by omega)
          refine xi_iinc (pc' := 74) (x := x3) (v := v48) (lv' := [(3, .int v48), (2, .int x2), (1, .int v17), (0, .ref 115)]) kc_44_71 rfl rfl ev48 rfl (xm_lt ml_44 rfl) ?_
          refine xi_goto (pc' := 6) kc_44_74 rfl ?_
          refine xw_lv (b := [(0, .ref 115), (1, .int v17), (2, .int x2), (3, .int v48)]) (lvS_cons (lvS_cons (lvS_cons (lvS_cons (lvS_nil (show ([3, 2, 1, 0] : List Nat).Nodup by decide)) rfl) rfl) rfl) rfl) ?_
          exact i0 v17 x2 v48 hh46 (by omega) K47 (by omega)
        · refine xi_cmt (pc' := 50) kc_44_43 rfl (xc_ne_t (X := v39.toInt) (Y := 99) rfl (by decide) (by omega)) ?_
          refine xi_aload_n (pc' := 51) (x := 115) kc_44_50 rfl rfl ?_
          refine xi_getfield (pc' := 54) (v := .ref 124) kc_44_51 rfl rfl rfl A15 rfl ?_
          refine xi_iload_n (pc' := 55) (x := x3) kc_44_54 rfl rfl ?_
          refine xi_iaload (pc' := 56) (v := v39) kc_44_55 rfl A38 (by decide) rfl (xi_in (by omega) (by rw [hy38]; omega)) ev39 ?_
          refine xi_istore_n (pc' := 57) (lv' := [(2, .int v39), (1, .int v17), (0, .ref 115), (3, .int x3)]) kc_44_56 rfl rfl (xm_lt ml_44 rfl) ?_
          refine xi_aload_n (pc' := 58) (x := 115) kc_44_57 rfl rfl ?_
          refine xi_getfield (pc' := 61) (v := .ref 150) kc_44_58 rfl rfl rfl A15 rfl ?_
          refine xi_iload_n (pc' := 62) (x := x3) kc_44_61 rfl rfl ?_
          refine xi_iload_n (pc' := 63) (x := v17) kc_44_62 rfl rfl ?_
          obtain ⟨y49, A49, hy49, ry49⟩ := xk_arr K.1 xD_150
          obtain ⟨y50, s50, hy50, ry50⟩ := xj_set (v := v17) hy49 ry49 x3 (by first | omega | decide) (by first | omega | decide)
          refine xi_iastore (pc' := 64) (x' := y50) kc_44_63 rfl A49 rfl (xi_in (by omega) (by rw [hy49]; omega)) s50 (fun hh50 eh50 => ?_)
          have K51 := xk_pa K (xk_wa rfl) xD_150 hy50 ry50 eh50
          refine xi_aload_n (pc' := 65) (x := 115) kc_44_64 rfl rfl ?_
          have A52 := ((eh50.2.1 115 (by decide)).trans A15)
          refine xi_getfield (pc' := 68) (v := .ref 151) kc_44_65 rfl rfl rfl A52 rfl ?_
          refine xi_iload_n (pc' := 69) (x := x3) kc_44_68 rfl rfl ?_
          refine xi_iload_n (pc' := 70) (x := v39) kc_44_69 rfl rfl ?_
          obtain ⟨y53, A53, hy53, ry53⟩ := xk_arr K51.1 xD_151
          obtain ⟨y54, s54, hy54, ry54⟩ := xj_set (v := v39) hy53 ry53 x3 (by first | omega | decide) (by first | omega | decide)
          refine xi_iastore (pc' := 71) (x' := y54) kc_44_70 rfl A53 rfl (xi_in (by omega) (by rw [hy53]; omega)) s54 (fun hh54 eh54 => ?_)
          have K55 := xk_pa K51 (xk_wa rfl) xD_151 hy54 ry54 eh54
          obtain ⟨v56, ev56⟩ : ∃ q : Int32, x3 + 1 = q := ⟨_, rfl⟩
          have zv56 : v56.toInt = (x3.toInt + 1) := by rw [← ev56]; exact (xz_add (X := x3.toInt) (Y := 1) rfl (by decide) (by omega) (by omega)).trans (by omega)
          refine xi_iinc (pc' := 74) (x := x3) (v := v56) (lv' := [(3, .int v56), (2, .int v39), (1, .int v17), (0, .ref 115)]) kc_44_71 rfl rfl ev56 rfl (xm_lt ml_44 rfl) ?_
          refine xi_goto (pc' := 6) kc_44_74 rfl ?_
          refine xw_lv (b := [(0, .ref 115), (1, .int v17), (2, .int v39), (3, .int v56)]) (lvS_cons (lvS_cons (lvS_cons (lvS_cons (lvS_nil (show ([3, 2, 1, 0] : List Nat).Nodup by decide)) rfl) rfl) rfl) rfl) ?_
          exact i0 v17 v39 v56 hh54 (by omega) K55 (by omega)
set_option maxHeartbeats 4000000 in
theorem mt_44_0 {J : xe_J} {ov : List (List Int32)} (hJ : ∀ d mj as h, mj ≠ xe_loff → J d mj as h = none) (hov1 : ov[1]? = some [10, 0, 0, 0, 0, 0]) (hov2 : ov[2]? = some [99, 30, 50, 50, 1, 99999]) {d : Nat} {Q : Option Value → xe_H → Prop} {h : xe_H} (T : xt h) (kk : (∀ h' : xe_H, xk [(0, 9), (115, 1), (83, 0), (6, 0), (123, 0), (9, 0), (124, 0), (7, 0), (10, 0), (5, 0), (8, 0)] h h' → Q none h')) : xw J ov (d + 1) 44 (0, [(0, .ref 115)], [], h) Q := by
  have K : xk [(0, 9), (115, 1), (83, 0), (6, 0), (123, 0), (9, 0), (124, 0), (7, 0), (10, 0), (5, 0), (8, 0)] h h := xk_re T
  refine xi_iconst (pc' := 1) (v := 5) kc_44_0 rfl rfl ?_
  refine xi_istore_n (pc' := 2) (lv' := [(1, .int 5), (0, .ref 115)]) kc_44_1 rfl rfl (xm_lt ml_44 rfl) ?_
  refine xi_iconst (pc' := 3) (v := 0) kc_44_2 rfl rfl ?_
  refine xi_istore_n (pc' := 4) (lv' := [(2, .int 0), (1, .int 5), (0, .ref 115)]) kc_44_3 rfl rfl (xm_lt ml_44 rfl) ?_
  refine xi_iconst (pc' := 5) (v := 0) kc_44_4 rfl rfl ?_
  refine xi_istore_n (pc' := 6) (lv' := [(3, .int 0), (2, .int 0), (1, .int 5), (0, .ref 115)]) kc_44_5 rfl rfl (xm_lt ml_44 rfl) ?_
  have zc0 : (0 : Int32).toInt = 0 := by decide
  have zc5 : (5 : Int32).toInt = 5 := by decide
  refine xw_lv (b := [(0, .ref 115), (1, .int 5), (2, .int 0), (3, .int 0)]) (lvS_cons (lvS_cons (lvS_cons (lvS_cons (lvS_nil (show ([3, 2, 1, 0] : List Nat).Nodup by decide)) rfl) rfl) rfl) rfl) ?_
  exact (lp_44_0 hJ hov1 hov2 (d := d) (hb := h) (fun h9 K9 => kk h9 (xk_tr K K9 rfl)) 601) 5 0 0 h (by omega) (xk_re K.1) (by omega)
set_option maxHeartbeats 4000000 in
theorem lp_45_0 {J : xe_J} {ov : List (List Int32)} (hJ : ∀ d mj as h, mj ≠ xe_loff → J d mj as h = none) (hov1 : ov[1]? = some [10, 0, 0, 0, 0, 0]) (hov2 : ov[2]? = some [99, 30, 50, 50, 1, 99999]) {d : Nat} {Q : Option Value → xe_H → Prop} {hb : xe_H} (kk : (∀ (r : Int64) (h' : xe_H), xk [(0, 9), (115, 1), (83, 0), (6, 0), (123, 0), (9, 0), (124, 0), (7, 0), (10, 0), (5, 0), (8, 0)] hb h' → Q (some (.long r)) h')) : ∀ m : Nat, (∀ (x1 : Int32) (w2 : Int64) (x4 : Int32) (x5 : Int32) (h : xe_H), (0 ≤ x1.toInt ∧ x1.toInt ≤ 63) → (0 ≤ x4.toInt ∧ x4.toInt ≤ 0) → (0 ≤ x5.toInt ∧ x5.toInt ≤ 6) → xk [(0, 9), (115, 1), (83, 0), (6, 0), (123, 0), (9, 0), (124, 0), (7, 0), (10, 0), (5, 0), (8, 0)] hb h → (-1) * x5.toInt + 37343 < (m : Int) → xw J ov (d + 5) 45 (8, [(0, .ref 115), (1, .int x1), (2, .long w2), (4, .int x4), (5, .int x5)], [], h) Q) ∧ (∀ (x1 : Int32) (w2 : Int64) (x4 : Int32) (x5 : Int32) (h : xe_H), (0 ≤ x1.toInt ∧ x1.toInt ≤ 63) → (0 ≤ x4.toInt ∧ x4.toInt ≤ 0) → (0 ≤ x5.toInt ∧ x5.toInt ≤ 12) → xk [(0, 9), (115, 1), (83, 0), (6, 0), (123, 0), (9, 0), (124, 0), (7, 0), (10, 0), (5, 0), (8, 0)] hb h → (-1) * x5.toInt + 37336 < (m : Int) → xw J ov (d + 5) 45 (32, [(0, .ref 115), (1, .int x1), (2, .long w2), (4, .int x4), (5, .int x5)], [], h) Q) ∧ (∀ (x1 : Int32) (w2 : Int64) (x4 : Int32) (x5 : Int32) (h : xe_H), (0 ≤ x1.toInt ∧ x1.toInt ≤ 63) → (0 ≤ x4.toInt ∧ x4.toInt ≤ 60) → (0 ≤ x5.toInt ∧ x5.toInt ≤ 601) → xk [(0, 9), (115, 1), (83, 0), (6, 0), (123, 0), (9, 0), (124, 0), (7, 0), (10, 0), (5, 0), (8, 0)] hb h → (-62) * x5.toInt + 37323 < (m : Int) → xw J ov (d + 5) 45 (56, [(0, .ref 115), (1, .int x1), (2, .long w2), (4, .int x4), (5, .int x5)], [], h) Q) ∧ (∀ (x1 : Int32) (w2 : Int64) (x4 : Int32) (x5 : Int32) (h : xe_H), (0 ≤ x1.toInt ∧ x1.toInt ≤ 63) → (0 ≤ x4.toInt ∧ x4.toInt ≤ 60) → (0 ≤ x5.toInt ∧ x5.toInt ≤ 600) → xk [(0, 9), (115, 1), (83, 0), (6, 0), (123, 0), (9, 0), (124, 0), (7, 0), (10, 0), (5, 0), (8, 0)] hb h → (-62) * x5.toInt + (-1) * x4.toInt + 37322 < (m : Int) → xw J ov (d + 5) 45 (65, [(0, .ref 115), (1, .int x1), (2, .long w2), (4, .int x4), (5, .int x5)], [], h) Q) := by
  intro m
  induction m with
  | zero =>
    refine ⟨?_, ?_, ?_, ?_⟩
    · intro x1 w2 x4 x5 h b1 b4 b5 K hm; exfalso; omega
    · intro x1 w2 x4 x5 h b1 b4 b5 K hm; exfalso; omega
    · intro x1 w2 x4 x5 h b1 b4 b5 K hm; exfalso; omega
    · intro x1 w2 x4 x5 h b1 b4 b5 K hm; exfalso; omega
  | succ m ih =>
    obtain ⟨i0, i1, i2, i3⟩ := ih
    refine ⟨?_, ?_, ?_, ?_⟩
    · intro x1 w2 x4 x5 h b1 b4 b5 K hm
      refine xi_iload (pc' := 10) (x := x5) kc_45_8 rfl rfl ?_
      refine xi_bipush (pc' := 12) (v := 6) kc_45_10 rfl rfl ?_
      by_cases c1 : 6 ≤ x5.toInt
      · refine xi_cmt (pc' := 29) kc_45_12 rfl (xc_ge_t (X := x5.toInt) (Y := 6) rfl (by decide) (by omega)) ?_
        refine xi_iconst (pc' := 30) (v := 0) kc_45_29 rfl rfl ?_
        refine xi_istore (pc' := 32) (lv' := [(5, .int 0), (0, .ref 115), (1, .int x1), (2, .long w2), (4, .int x4)]) kc_45_30 rfl rfl (xm_lt ml_45 rfl) ?_
        have zc0 : (0 : Int32).toInt = 0 := by decide
        refine xw_lv (b := [(0, .ref 115), (1, .int x1), (2, .long w2), (4, .int x4), (5, .int 0)]) (lvS_cons (lvS_cons (lvS_cons (lvS_cons (lvS_cons (lvS_nil (show ([5, 0, 1, 2, 4] : List Nat).Nodup by decide)) rfl) rfl) rfl) rfl) rfl) ?_
        exact i1 x1 w2 x4 0 h (by omega) (by omega) (by omega) K (by omega)
      · refine xi_cmf (pc' := 15) kc_45_12 rfl (xc_ge_f (X := x5.toInt) (Y := 6) rfl (by decide) (by omega)) ?_
        refine xi_aload_n (pc' := 16) (x := 115) kc_45_15 rfl rfl ?_
        obtain ⟨u2, u3, u4, u5, u6, u7, u8, u9, u10, u11, u12, u13, u14, bu2, bu3, bu4, bu5, bu6, bu7, bu8, bu9, bu10, bu11, bu12, bu13, bu14, A15⟩ := xq_115 K.1
        refine xi_getfield (pc' := 19) (v := .ref 141) kc_45_16 rfl rfl rfl A15 rfl ?_
        refine xi_iload (pc' := 21) (x := x5) kc_45_19 rfl rfl ?_
        refine xi_iconst (pc' := 22) (v := 0) kc_45_21 rfl rfl ?_
        obtain ⟨y16, A16, hy16, ry16⟩ := xk_arr K.1 xD_141
        obtain ⟨y17, s17, hy17, ry17⟩ := xj_set (v := 0) hy16 ry16 x5 (by first | omega | decide) (by first | omega | decide)
        refine xi_iastore (pc' := 23) (x' := y17) kc_45_22 rfl A16 rfl (xi_in (by omega) (by rw [hy16]; omega)) s17 (fun hh17 eh17 => ?_)
        have K18 := xk_pa K (xk_wa rfl) xD_141 hy17 ry17 eh17
        obtain ⟨v19, ev19⟩ : ∃ q : Int32, x5 + 1 = q := ⟨_, rfl⟩
        have zv19 : v19.toInt = (x5.toInt + 1) := by rw [← ev19]; exact (xz_add (X := x5.toInt) (Y := 1) rfl (by decide) (by omega) (by omega)).trans (by omega)
        refine xi_iinc (pc' := 26) (x := x5) (v := v19) (lv' := [(5, .int v19), (0, .ref 115), (1, .int x1), (2, .long w2), (4, .int x4)]) kc_45_23 rfl rfl ev19 rfl (xm_lt ml_45 rfl) ?_
        refine xi_goto (pc' := 8) kc_45_26 rfl ?_
        refine xw_lv (b := [(0, .ref 115), (1, .int x1), (2, .long w2), (4, .int x4), (5, .int v19)]) (lvS_cons (lvS_cons (lvS_cons (lvS_cons (lvS_cons (lvS_nil (show ([5, 0, 1, 2, 4] : List Nat).Nodup by decide)) rfl) rfl) rfl) rfl) rfl) ?_
        exact i0 x1 w2 x4 v19 hh17 (by omega) (by omega) (by omega) K18 (by omega)
    · intro x1 w2 x4 x5 h b1 b4 b5 K hm
      refine xi_iload (pc' := 34) (x := x5) kc_45_32 rfl rfl ?_
      refine xi_bipush (pc' := 36) (v := 12) kc_45_34 rfl rfl ?_
      by_cases c1 : 12 ≤ x5.toInt
      · refine xi_cmt (pc' := 53) kc_45_36 rfl (xc_ge_t (X := x5.toInt) (Y := 12) rfl (by decide) (by omega)) ?_
        refine xi_iconst (pc' := 54) (v := 0) kc_45_53 rfl rfl ?_
        refine xi_istore (pc' := 56) (lv' := [(5, .int 0), (0, .ref 115), (1, .int x1), (2, .long w2), (4, .int x4)]) kc_45_54 rfl rfl (xm_lt ml_45 rfl) ?_
        have zc0 : (0 : Int32).toInt = 0 := by decide
        refine xw_lv (b := [(0, .ref 115), (1, .int x1), (2, .long w2), (4, .int x4), (5, .int 0)]) (lvS_cons (lvS_cons (lvS_cons (lvS_cons (lvS_cons (lvS_nil (show ([5, 0, 1, 2, 4] : List Nat).Nodup by decide)) rfl) rfl) rfl) rfl) rfl) ?_
        exact i2 x1 w2 x4 0 h (by omega) (by omega) (by omega) K (by omega)
      · refine xi_cmf (pc' := 39) kc_45_36 rfl (xc_ge_f (X := x5.toInt) (Y := 12) rfl (by decide) (by omega)) ?_
        refine xi_aload_n (pc' := 40) (x := 115) kc_45_39 rfl rfl ?_
        obtain ⟨u2, u3, u4, u5, u6, u7, u8, u9, u10, u11, u12, u13, u14, bu2, bu3, bu4, bu5, bu6, bu7, bu8, bu9, bu10, bu11, bu12, bu13, bu14, A15⟩ := xq_115 K.1
        refine xi_getfield (pc' := 43) (v := .ref 142) kc_45_40 rfl rfl rfl A15 rfl ?_
        refine xi_iload (pc' := 45) (x := x5) kc_45_43 rfl rfl ?_
        refine xi_iconst (pc' := 46) (v := 0) kc_45_45 rfl rfl ?_
        obtain ⟨y16, A16, hy16, ry16⟩ := xk_arr K.1 xD_142
        obtain ⟨y17, s17, hy17, ry17⟩ := xj_set (v := 0) hy16 ry16 x5 (by first | omega | decide) (by first | omega | decide)
        refine xi_iastore (pc' := 47) (x' := y17) kc_45_46 rfl A16 rfl (xi_in (by omega) (by rw [hy16]; omega)) s17 (fun hh17 eh17 => ?_)
        have K18 := xk_pa K (xk_wa rfl) xD_142 hy17 ry17 eh17
        obtain ⟨v19, ev19⟩ : ∃ q : Int32, x5 + 1 = q := ⟨_, rfl⟩
        have zv19 : v19.toInt = (x5.toInt + 1) := by rw [← ev19]; exact (xz_add (X := x5.toInt) (Y := 1) rfl (by decide) (by omega) (by omega)).trans (by omega)
        refine xi_iinc (pc' := 50) (x := x5) (v := v19) (lv' := [(5, .int v19), (0, .ref 115), (1, .int x1), (2, .long w2), (4, .int x4)]) kc_45_47 rfl rfl ev19 rfl (xm_lt ml_45 rfl) ?_
        refine xi_goto (pc' := 32) kc_45_50 rfl ?_
        refine xw_lv (b := [(0, .ref 115), (1, .int x1), (2, .long w2), (4, .int x4), (5, .int v19)]) (lvS_cons (lvS_cons (lvS_cons (lvS_cons (lvS_cons (lvS_nil (show ([5, 0, 1, 2, 4] : List Nat).Nodup by decide)) rfl) rfl) rfl) rfl) rfl) ?_
        exact i1 x1 w2 x4 v19 hh17 (by omega) (by omega) (by omega) K18 (by omega)
    · intro x1 w2 x4 x5 h b1 b4 b5 K hm
      refine xi_iload (pc' := 58) (x := x5) kc_45_56 rfl rfl ?_
      refine xi_aload_n (pc' := 59) (x := 115) kc_45_58 rfl rfl ?_
      obtain ⟨u1, u2, u3, u4, u5, u6, u7, u8, u9, u10, u11, u12, u13, bu1, bu2, bu3, bu4, bu5, bu6, bu7, bu8, bu9, bu10, bu11, bu12, bu13, A14⟩ := xq_115 K.1
      refine xi_getfield (pc' := 62) (v := .int u2) kc_45_59 rfl rfl rfl A14 rfl ?_
      by_cases c15 : u2.toInt < x5.toInt
      · refine xi_cmt (pc' := 221) kc_45_62 rfl (xc_gt_t (X := x5.toInt) (Y := u2.toInt) rfl rfl (by omega)) ?_
        refine xi_lload_n (pc' := 222) (x := w2) kc_45_221 rfl rfl ?_
        refine xi_lreturn kc_45_222 mr_45 ?_
        exact kk w2 h K
      · refine xi_cmf (pc' := 65) kc_45_62 rfl (xc_gt_f (X := x5.toInt) (Y := u2.toInt) rfl rfl (by omega)) ?_
        refine xw_lv (b := [(0, .ref 115), (1, .int x1), (2, .long w2), (4, .int x4), (5, .int x5)]) (lvS_cons (lvS_cons (lvS_cons (lvS_cons (lvS_cons (lvS_nil (show ([0, 1, 2, 4, 5] : List Nat).Nodup by decide)) rfl) rfl) rfl) rfl) rfl) ?_
        exact i3 x1 w2 x4 x5 h (by omega) (by omega) (by omega) K (by omega)
    · intro x1 w2 x4 x5 h b1 b4 b5 K hm
      refine xi_iload (pc' := 67) (x := x4) kc_45_65 rfl rfl ?_
      refine xi_aload_n (pc' := 68) (x := 115) kc_45_67 rfl rfl ?_
      obtain ⟨u1, u2, u3, u4, u5, u6, u7, u8, u9, u10, u11, u12, u13, bu1, bu2, bu3, bu4, bu5, bu6, bu7, bu8, bu9, bu10, bu11, bu12, bu13, A14⟩ := xq_115 K.1
      refine xi_getfield (pc' := 71) (v := .int u4) kc_45_68 rfl rfl rfl A14 rfl ?_
      by_cases c15 : u4.toInt ≤ x4.toInt
      · refine xi_cmt (pc' := 176) kc_45_71 rfl (xc_ge_t (X := x4.toInt) (Y := u4.toInt) rfl rfl (by omega)) ?_
        refine xi_iload (pc' := 178) (x := x5) kc_45_176 rfl rfl ?_
        refine xi_aload_n (pc' := 179) (x := 115) kc_45_178 rfl rfl ?_
        refine xi_getfield (pc' := 182) (v := .int u2) kc_45_179 rfl rfl rfl A14 rfl ?_
        by_cases c16 : u2.toInt ≤ x5.toInt
        · refine xi_cmt (pc' := 215) kc_45_182 rfl (xc_ge_t (X := x5.toInt) (Y := u2.toInt) rfl rfl (by omega)) ?_
          obtain ⟨v17, ev17⟩ : ∃ q : Int32, x5 + 1 = q := ⟨_, rfl⟩
          have zv17 : v17.toInt = (x5.toInt + 1) := by rw [← ev17]; exact (xz_add (X := x5.toInt) (Y := 1) rfl (by decide) (by omega) (by omega)).trans (by omega)
          refine xi_iinc (pc' := 218) (x := x5) (v := v17) (lv' := [(5, .int v17), (0, .ref 115), (1, .int x1), (2, .long w2), (4, .int x4)]) kc_45_215 rfl rfl ev17 rfl (xm_lt ml_45 rfl) ?_
          refine xi_goto (pc' := 56) kc_45_218 rfl ?_
          refine xw_lv (b := [(0, .ref 115), (1, .int x1), (2, .long w2), (4, .int x4), (5, .int v17)]) (lvS_cons (lvS_cons (lvS_cons (lvS_cons (lvS_cons (lvS_nil (show ([5, 0, 1, 2, 4] : List Nat).Nodup by decide)) rfl) rfl) rfl) rfl) rfl) ?_
          exact i2 x1 w2 x4 v17 h (by omega) (by omega) (by omega) K (by omega)
        · refine xi_cmf (pc' := 185) kc_45_182 rfl (xc_ge_f (X := x5.toInt) (Y := u2.toInt) rfl rfl (by omega)) ?_
          refine xi_aload_n (pc' := 186) (x := 115) kc_45_185 rfl rfl ?_
          refine xi_aload_n (pc' := 187) (x := 115) kc_45_186 rfl rfl ?_
          refine xi_getfield (pc' := 190) (v := .ref 150) kc_45_187 rfl rfl rfl A14 rfl ?_
          refine xi_iload (pc' := 192) (x := x5) kc_45_190 rfl rfl ?_
          obtain ⟨y18, A18, hy18, ry18⟩ := xk_arr K.1 xD_150
          obtain ⟨v19, ev19, bv19, dv19⟩ := xj_get hy18 ry18 (i := x5) (by omega) (by omega)
          refine xi_iaload (pc' := 193) (v := v19) kc_45_192 rfl A18 (by decide) rfl (xi_in (by omega) (by rw [hy18]; omega)) ev19 ?_
          refine xi_putfield (pc' := 196) (fs' := [.int u1, .int u2, .ref 116, .ref 117, .ref 118, .ref 119, .ref 120, .ref 121, .ref 122, .ref 123, .ref 124, .ref 125, .ref 126, .ref 127, .ref 128, .ref 129, .int u3, .ref 130, .int u4, .ref 131, .ref 132, .ref 133, .ref 134, .int u5, .ref 135, .ref 136, .ref 137, .ref 138, .ref 139, .ref 140, .ref 141, .ref 142, .int v19, .int u7, .int u8, .ref 143, .ref 144, .ref 145, .ref 146, .ref 147, .ref 148, .int u9, .ref 149, .ref 150, .ref 151, .int u10, .ref 152, .ref 153, .ref 154, .ref 155, .ref 156, .ref 157, .ref 158, .ref 159, .int u11, .ref 160, .int u12, .ref 161, .ref 162, .ref 163, .ref 164, .int u13, .ref 165, .ref 166]) kc_45_193 rfl rfl rfl A14 rfl rfl rfl (Nat.le_of_ble_eq_true rfl) rfl (fun hh21 eh20 => ?_)
          have K22 := xk_pf (k := 32) (v := v19) K (xk_wf rfl) xD_115 A14 rfl (by first | omega | decide) (by first | omega | decide) eh20 rfl
          refine xi_aload_n (pc' := 197) (x := 115) kc_45_196 rfl rfl ?_
          refine xi_aload_n (pc' := 198) (x := 115) kc_45_197 rfl rfl ?_
          refine xi_getfield (pc' := 201) (v := .ref 151) kc_45_198 rfl rfl rfl eh20.1 rfl ?_
          refine xi_iload (pc' := 203) (x := x5) kc_45_201 rfl rfl ?_
          obtain ⟨y23, A23, hy23, ry23⟩ := xk_arr K22.1 xD_151
          obtain ⟨v24, ev24, bv24, dv24⟩ := xj_get hy23 ry23 (i := x5) (by omega) (by omega)
          refine xi_iaload (pc' := 204) (v := v24) kc_45_203 rfl A23 (by decide) rfl (xi_in (by omega) (by rw [hy23]; omega)) ev24 ?_
          refine xi_putfield (pc' := 207) (fs' := [.int u1, .int u2, .ref 116, .ref 117, .ref 118, .ref 119, .ref 120, .ref 121, .ref 122, .ref 123, .ref 124, .ref 125, .ref 126, .ref 127, .ref 128, .ref 129, .int u3, .ref 130, .int u4, .ref 131, .ref 132, .ref 133, .ref 134, .int u5, .ref 135, .ref 136, .ref 137, .ref 138, .ref 139, .ref 140, .ref 141, .ref 142, .int v19, .int v24, .int u8, .ref 143, .ref 144, .ref 145, .ref 146, .ref 147, .ref 148, .int u9, .ref 149, .ref 150, .ref 151, .int u10, .ref 152, .ref 153, .ref 154, .ref 155, .ref 156, .ref 157, .ref 158, .ref 159, .int u11, .ref 160, .int u12, .ref 161, .ref 162, .ref 163, .ref 164, .int u13, .ref 165, .ref 166]) kc_45_204 rfl rfl rfl eh20.1 rfl rfl rfl (Nat.le_of_ble_eq_true rfl) rfl (fun hh26 eh25 => ?_)
          have K27 := xk_pf (k := 33) (v := v24) K22 (xk_wf rfl) xD_115 eh20.1 rfl (by first | omega | decide) (by first | omega | decide) eh25 rfl
          refine xi_aload_n (pc' := 208) (x := 115) kc_45_207 rfl rfl ?_
          refine xi_iload_n (pc' := 209) (x := x1) kc_45_208 rfl rfl ?_
          refine xi_iconst (pc' := 210) (v := 0) kc_45_209 rfl rfl ?_
          refine xi_iload (pc' := 212) (x := x5) kc_45_210 rfl rfl ?_
          refine xi_virtual (mj := 36) (as := [.int x1, .int 0, .int x5]) (st1 := []) (lv0 := [(0, .ref 115), (1, .int x1), (2, .int 0), (3, .int x5)]) kc_45_212 rfl rfl rfl rfl rfl eh25.1 (Nat.le_of_ble_eq_true rfl) (hJ _ _ _ _ (by decide)) (xm_le ml_36 rfl) rfl ?_
          have zc0 : (0 : Int32).toInt = 0 := by decide
          refine mt_36_0 hJ hov1 hov2 (d := d) (x1 := x1) (x2 := 0) (x3 := x5) K27.1 (by first | omega | decide) (by first | omega | decide) (by first | omega | decide) (fun hh29 K30 => ?_)
          have K31 := xk_tr K27 K30 rfl
          obtain ⟨u32, u33, u34, u35, u36, u37, u38, u39, u40, u41, u42, u43, u44, bu32, bu33, bu34, bu35, bu36, bu37, bu38, bu39, bu40, bu41, bu42, bu43, bu44, A45⟩ := xq_115 K31.1
          have e46 : u2 = u33 := xk_eqi (q := 1) K30 rfl eh25.1 A45 rfl rfl
          subst e46
          show xw J ov (d + 5) 45 (215, [(0, .ref 115), (1, .int x1), (2, .long w2), (4, .int x4), (5, .int x5)], [], hh29) _
          obtain ⟨v47, ev47⟩ : ∃ q : Int32, x5 + 1 = q := ⟨_, rfl⟩
          have zv47 : v47.toInt = (x5.toInt + 1) := by rw [← ev47]; exact (xz_add (X := x5.toInt) (Y := 1) rfl (by decide) (by omega) (by omega)).trans (by omega)
          refine xi_iinc (pc' := 218) (x := x5) (v := v47) (lv' := [(5, .int v47), (0, .ref 115), (1, .int x1), (2, .long w2), (4, .int x4)]) kc_45_215 rfl rfl ev47 rfl (xm_lt ml_45 rfl) ?_
          refine xi_goto (pc' := 56) kc_45_218 rfl ?_
          refine xw_lv (b := [(0, .ref 115), (1, .int x1), (2, .long w2), (4, .int x4), (5, .int v47)]) (lvS_cons (lvS_cons (lvS_cons (lvS_cons (lvS_cons (lvS_nil (show ([5, 0, 1, 2, 4] : List Nat).Nodup by decide)) rfl) rfl) rfl) rfl) rfl) ?_
          exact i2 x1 w2 x4 v47 hh29 (by omega) (by omega) (by omega) K31 (by omega)
      · refine xi_cmf (pc' := 74) kc_45_71 rfl (xc_ge_f (X := x4.toInt) (Y := u4.toInt) rfl rfl (by omega)) ?_
        refine xi_aload_n (pc' := 75) (x := 115) kc_45_74 rfl rfl ?_
        refine xi_getfield (pc' := 78) (v := .ref 132) kc_45_75 rfl rfl rfl A14 rfl ?_
        refine xi_iload (pc' := 80) (x := x4) kc_45_78 rfl rfl ?_
        obtain ⟨y48, A48, hy48, ry48⟩ := xk_arr K.1 xD_132
        obtain ⟨v49, ev49, bv49, dv49⟩ := xj_get hy48 ry48 (i := x4) (by omega) (by omega)
        refine xi_iaload (pc' := 81) (v := v49) kc_45_80 rfl A48 (by decide) rfl (xi_in (by omega) (by rw [hy48]; omega)) ev49 ?_
        refine xi_iload (pc' := 83) (x := x5) kc_45_81 rfl rfl ?_
        by_cases c50 : v49.toInt = x5.toInt
        · refine xi_cmf (pc' := 86) kc_45_83 rfl (xc_ne_f (X := v49.toInt) (Y := x5.toInt) rfl rfl (by omega)) ?_
          refine xi_aload_n (pc' := 87) (x := 115) kc_45_86 rfl rfl ?_
          refine xi_getfield (pc' := 90) (v := .ref 142) kc_45_87 rfl rfl rfl A14 rfl ?_
          refine xi_aload_n (pc' := 91) (x := 115) kc_45_90 rfl rfl ?_
          refine xi_getfield (pc' := 94) (v := .ref 131) kc_45_91 rfl rfl rfl A14 rfl ?_
          refine xi_iload (pc' := 96) (x := x4) kc_45_94 rfl rfl ?_
          obtain ⟨y51, A51, hy51, ry51⟩ := xk_arr K.1 xD_131
          obtain ⟨v52, ev52, bv52, dv52⟩ := xj_get hy51 ry51 (i := x4) (by omega) (by omega)
          refine xi_iaload (pc' := 97) (v := v52) kc_45_96 rfl A51 (by decide) rfl (xi_in (by omega) (by rw [hy51]; omega)) ev52 ?_
          obtain ⟨y53, A53, hy53, ry53⟩ := xk_arr K.1 xD_142
          obtain ⟨v54, ev54, bv54, dv54⟩ := xj_get hy53 ry53 (i := v52) (by omega) (by omega)
          refine xi_iaload (pc' := 98) (v := v54) kc_45_97 rfl A53 (by decide) rfl (xi_in (by omega) (by rw [hy53]; omega)) ev54 ?_
          refine xi_istore (pc' := 100) (lv' := [(6, .int v54), (0, .ref 115), (1, .int x1), (2, .long w2), (4, .int x4), (5, .int x5)]) kc_45_98 rfl rfl (xm_lt ml_45 rfl) ?_
          refine xi_aload_n (pc' := 101) (x := 115) kc_45_100 rfl rfl ?_
          refine xi_getfield (pc' := 104) (v := .ref 133) kc_45_101 rfl rfl rfl A14 rfl ?_
          refine xi_iload (pc' := 106) (x := x4) kc_45_104 rfl rfl ?_
          obtain ⟨y55, A55, hy55, ry55⟩ := xk_arr K.1 xD_133
          obtain ⟨v56, ev56, bv56, dv56⟩ := xj_get hy55 ry55 (i := x4) (by omega) (by omega)
          refine xi_iaload (pc' := 107) (v := v56) kc_45_106 rfl A55 (by decide) rfl (xi_in (by omega) (by rw [hy55]; omega)) ev56 ?_
          refine xi_aload_n (pc' := 108) (x := 115) kc_45_107 rfl rfl ?_
          refine xi_getfield (pc' := 111) (v := .ref 134) kc_45_108 rfl rfl rfl A14 rfl ?_
          refine xi_iload (pc' := 113) (x := x4) kc_45_111 rfl rfl ?_
          obtain ⟨y57, A57, hy57, ry57⟩ := xk_arr K.1 xD_134
          obtain ⟨v58, ev58, bv58, dv58⟩ := xj_get hy57 ry57 (i := x4) (by omega) (by omega)
          refine xi_iaload (pc' := 114) (v := v58) kc_45_113 rfl A57 (by decide) rfl (xi_in (by omega) (by rw [hy57]; omega)) ev58 ?_
          obtain ⟨v59, ev59⟩ : ∃ q : Int32, (v56 : Int32) - v58 = q := ⟨_, rfl⟩
          have rv59 := xc_rng v59
          refine xi_isub (pc' := 115) (v := v59) kc_45_114 rfl ev59 ?_
          refine xi_istore (pc' := 117) (lv' := [(7, .int v59), (6, .int v54), (0, .ref 115), (1, .int x1), (2, .long w2), (4, .int x4), (5, .int x5)]) kc_45_115 rfl rfl (xm_lt ml_45 rfl) ?_
          refine xi_aload_n (pc' := 118) (x := 115) kc_45_117 rfl rfl ?_
          refine xi_getfield (pc' := 121) (v := .ref 133) kc_45_118 rfl rfl rfl A14 rfl ?_
          refine xi_iload (pc' := 123) (x := x4) kc_45_121 rfl rfl ?_
          refine xi_iaload (pc' := 124) (v := v56) kc_45_123 rfl A55 (by decide) rfl (xi_in (by omega) (by rw [hy55]; omega)) ev56 ?_
          refine xi_aload_n (pc' := 125) (x := 115) kc_45_124 rfl rfl ?_
          refine xi_getfield (pc' := 128) (v := .ref 134) kc_45_125 rfl rfl rfl A14 rfl ?_
          refine xi_iload (pc' := 130) (x := x4) kc_45_128 rfl rfl ?_
          refine xi_iaload (pc' := 131) (v := v58) kc_45_130 rfl A57 (by decide) rfl (xi_in (by omega) (by rw [hy57]; omega)) ev58 ?_
          obtain ⟨v60, ev60⟩ : ∃ q : Int32, (v56 : Int32) + v58 = q := ⟨_, rfl⟩
          have rv60 := xc_rng v60
          refine xi_iadd (pc' := 132) (v := v60) kc_45_131 rfl ev60 ?_
          refine xi_istore (pc' := 134) (lv' := [(8, .int v60), (7, .int v59), (6, .int v54), (0, .ref 115), (1, .int x1), (2, .long w2), (4, .int x4), (5, .int x5)]) kc_45_132 rfl rfl (xm_lt ml_45 rfl) ?_
          refine xi_lload_n (pc' := 135) (x := w2) kc_45_134 rfl rfl ?_
          refine xi_iload (pc' := 137) (x := v54) kc_45_135 rfl rfl ?_
          refine xi_iload (pc' := 139) (x := v59) kc_45_137 rfl rfl ?_
          by_cases c61 : v59.toInt ≤ v54.toInt
          · refine xi_cmt (pc' := 151) kc_45_139 rfl (xc_ge_t (X := v54.toInt) (Y := v59.toInt) rfl rfl (by omega)) ?_
            refine xi_iload (pc' := 153) (x := v54) kc_45_151 rfl rfl ?_
            refine xi_iload (pc' := 155) (x := v60) kc_45_153 rfl rfl ?_
            by_cases c62 : v54.toInt ≤ v60.toInt
            · refine xi_cmt (pc' := 167) kc_45_155 rfl (xc_le_t (X := v54.toInt) (Y := v60.toInt) rfl rfl (by omega)) ?_
              refine xi_lconst (pc' := 168) (v := 0) kc_45_167 rfl rfl ?_
              obtain ⟨v63, ev63⟩ : ∃ q : Int64, (w2 : Int64) + 0 = q := ⟨_, rfl⟩
              refine xi_ladd (pc' := 169) (v := v63) kc_45_168 rfl ev63 ?_
              refine xi_lstore_n (pc' := 170) (lv' := [(2, .long v63), (8, .int v60), (7, .int v59), (6, .int v54), (0, .ref 115), (1, .int x1), (4, .int x4), (5, .int x5)]) kc_45_169 rfl rfl (xm_lt ml_45 rfl) ?_
              obtain ⟨v64, ev64⟩ : ∃ q : Int32, x4 + 1 = q := ⟨_, rfl⟩
              have zv64 : v64.toInt = (x4.toInt + 1) := by rw [← ev64]; exact (xz_add (X := x4.toInt) (Y := 1) rfl (by decide) (by omega) (by omega)).trans (by omega)
              refine xi_iinc (pc' := 173) (x := x4) (v := v64) (lv' := [(4, .int v64), (2, .long v63), (8, .int v60), (7, .int v59), (6, .int v54), (0, .ref 115), (1, .int x1), (5, .int x5)]) kc_45_170 rfl rfl ev64 rfl (xm_lt ml_45 rfl) ?_
              refine xi_goto (pc' := 65) kc_45_173 rfl ?_
              refine xw_lv (b := [(0, .ref 115), (1, .int x1), (2, .long v63), (4, .int v64), (5, .int x5)]) (lvS_cons (lvS_cons (lvS_cons (lvS_cons (lvS_cons (lvS_nil (show ([4, 2, 8, 7, 6, 0, 1, 5] : List Nat).Nodup by decide)) rfl) rfl) rfl) rfl) rfl) ?_
              exact i3 x1 v63 v64 x5 h (by omega) (by omega) (by omega) K (by omega)
            · refine xi_cmf (pc' := 158) kc_45_155 rfl (xc_le_f (X := v54.toInt) (Y := v60.toInt) rfl rfl (by omega)) ?_
              refine xi_iload (pc' := 160) (x := v54) kc_45_158 rfl rfl ?_
              refine xi_iload (pc' := 162) (x := v60) kc_45_160 rfl rfl ?_
              obtain ⟨v65, ev65⟩ : ∃ q : Int32, (v54 : Int32) - v60 = q := ⟨_, rfl⟩
              have rv65 := xc_rng v65
              refine xi_isub (pc' := 163) (v := v65) kc_45_162 rfl ev65 ?_
              obtain ⟨v66, ev66⟩ : ∃ q, (v65 : Int32).toInt64 = q := ⟨_, rfl⟩
              refine xi_i2l (pc' := 164) (v := v66) kc_45_163 rfl ev66 ?_
              refine xi_goto (pc' := 168) kc_45_164 rfl ?_
              obtain ⟨v67, ev67⟩ : ∃ q : Int64, (w2 : Int64) + v66 = q := ⟨_, rfl⟩
              refine xi_ladd (pc' := 169) (v := v67) kc_45_168 rfl ev67 ?_
              refine xi_lstore_n (pc' := 170) (lv' := [(2, .long v67), (8, .int v60), (7, .int v59), (6, .int v54), (0, .ref 115), (1, .int x1), (4, .int x4), (5, .int x5)]) kc_45_169 rfl rfl (xm_lt ml_45 rfl) ?_
              obtain ⟨v68, ev68⟩ : ∃ q : Int32, x4 + 1 = q := ⟨_, rfl⟩
              have zv68 : v68.toInt = (x4.toInt + 1) := by rw [← ev68]; exact (xz_add (X := x4.toInt) (Y := 1) rfl (by decide) (by omega) (by omega)).trans (by omega)
              refine xi_iinc (pc' := 173) (x := x4) (v := v68) (lv' := [(4, .int v68), (2, .long v67), (8, .int v60), (7, .int v59), (6, .int v54), (0, .ref 115), (1, .int x1), (5, .int x5)]) kc_45_170 rfl rfl ev68 rfl (xm_lt ml_45 rfl) ?_
              refine xi_goto (pc' := 65) kc_45_173 rfl ?_
              refine xw_lv (b := [(0, .ref 115), (1, .int x1), (2, .long v67), (4, .int v68), (5, .int x5)]) (lvS_cons (lvS_cons (lvS_cons (lvS_cons (lvS_cons (lvS_nil (show ([4, 2, 8, 7, 6, 0, 1, 5] : List Nat).Nodup by decide)) rfl) rfl) rfl) rfl) rfl) ?_
              exact i3 x1 v67 v68 x5 h (by omega) (by omega) (by omega) K (by omega)
          · refine xi_cmf (pc' := 142) kc_45_139 rfl (xc_ge_f (X := v54.toInt) (Y := v59.toInt) rfl rfl (by omega)) ?_
            refine xi_iload (pc' := 144) (x := v59) kc_45_142 rfl rfl ?_
            refine xi_iload (pc' := 146) (x := v54) kc_45_144 rfl rfl ?_
            obtain ⟨v69, ev69⟩ : ∃ q : Int32, (v59 : Int32) - v54 = q := ⟨_, rfl⟩
            have rv69 := xc_rng v69
            refine xi_isub (pc' := 147) (v := v69) kc_45_146 rfl ev69 ?_
            obtain ⟨v70, ev70⟩ : ∃ q, (v69 : Int32).toInt64 = q := ⟨_, rfl⟩
            refine xi_i2l (pc' := 148) (v := v70) kc_45_147 rfl ev70 ?_
            refine xi_goto (pc' := 168) kc_45_148 rfl ?_
            obtain ⟨v71, ev71⟩ : ∃ q : Int64, (w2 : Int64) + v70 = q := ⟨_, rfl⟩
            refine xi_ladd (pc' := 169) (v := v71) kc_45_168 rfl ev71 ?_
            refine xi_lstore_n (pc' := 170) (lv' := [(2, .long v71), (8, .int v60), (7, .int v59), (6, .int v54), (0, .ref 115), (1, .int x1), (4, .int x4), (5, .int x5)]) kc_45_169 rfl rfl (xm_lt ml_45 rfl) ?_
            obtain ⟨v72, ev72⟩ : ∃ q : Int32, x4 + 1 = q := ⟨_, rfl⟩
            have zv72 : v72.toInt = (x4.toInt + 1) := by rw [← ev72]; exact (xz_add (X := x4.toInt) (Y := 1) rfl (by decide) (by omega) (by omega)).trans (by omega)
            refine xi_iinc (pc' := 173) (x := x4) (v := v72) (lv' := [(4, .int v72), (2, .long v71), (8, .int v60), (7, .int v59), (6, .int v54), (0, .ref 115), (1, .int x1), (5, .int x5)]) kc_45_170 rfl rfl ev72 rfl (xm_lt ml_45 rfl) ?_
            refine xi_goto (pc' := 65) kc_45_173 rfl ?_
            refine xw_lv (b := [(0, .ref 115), (1, .int x1), (2, .long v71), (4, .int v72), (5, .int x5)]) (lvS_cons (lvS_cons (lvS_cons (lvS_cons (lvS_cons (lvS_nil (show ([4, 2, 8, 7, 6, 0, 1, 5] : List Nat).Nodup by decide)) rfl) rfl) rfl) rfl) rfl) ?_
            exact i3 x1 v71 v72 x5 h (by omega) (by omega) (by omega) K (by omega)
        · refine xi_cmt (pc' := 176) kc_45_83 rfl (xc_ne_t (X := v49.toInt) (Y := x5.toInt) rfl rfl (by omega)) ?_
          refine xi_iload (pc' := 178) (x := x5) kc_45_176 rfl rfl ?_
          refine xi_aload_n (pc' := 179) (x := 115) kc_45_178 rfl rfl ?_
          refine xi_getfield (pc' := 182) (v := .int u2) kc_45_179 rfl rfl rfl A14 rfl ?_
          by_cases c73 : u2.toInt ≤ x5.toInt
          · refine xi_cmt (pc' := 215) kc_45_182 rfl (xc_ge_t (X := x5.toInt) (Y := u2.toInt) rfl rfl (by omega)) ?_
            obtain ⟨v74, ev74⟩ : ∃ q : Int32, x5 + 1 = q := ⟨_, rfl⟩
            have zv74 : v74.toInt = (x5.toInt + 1) := by rw [← ev74]; exact (xz_add (X := x5.toInt) (Y := 1) rfl (by decide) (by omega) (by omega)).trans (by omega)
            refine xi_iinc (pc' := 218) (x := x5) (v := v74) (lv' := [(5, .int v74), (0, .ref 115), (1, .int x1), (2, .long w2), (4, .int x4)]) kc_45_215 rfl rfl ev74 rfl (xm_lt ml_45 rfl) ?_
            refine xi_goto (pc' := 56) kc_45_218 rfl ?_
            refine xw_lv (b := [(0, .ref 115), (1, .int x1), (2, .long w2), (4, .int x4), (5, .int v74)]) (lvS_cons (lvS_cons (lvS_cons (lvS_cons (lvS_cons (lvS_nil (show ([5, 0, 1, 2, 4] : List Nat).Nodup by decide)) rfl) rfl) rfl) rfl) rfl) ?_
            exact i2 x1 w2 x4 v74 h (by omega) (by omega) (by omega) K (by omega)
          · refine xi_cmf (pc' := 185) kc_45_182 rfl (xc_ge_f (X := x5.toInt) (Y := u2.toInt) rfl rfl (by omega)) ?_
            refine xi_aload_n (pc' := 186) (x := 115) kc_45_185 rfl rfl ?_
            refine xi_aload_n (pc' := 187) (x := 115) kc_45_186 rfl rfl ?_
            refine xi_getfield (pc' := 190) (v := .ref 150) kc_45_187 rfl rfl rfl A14 rfl ?_
            refine xi_iload (pc' := 192) (x := x5) kc_45_190 rfl rfl ?_
            obtain ⟨y75, A75, hy75, ry75⟩ := xk_arr K.1 xD_150
            obtain ⟨v76, ev76, bv76, dv76⟩ := xj_get hy75 ry75 (i := x5) (by omega) (by omega)
            refine xi_iaload (pc' := 193) (v := v76) kc_45_192 rfl A75 (by decide) rfl (xi_in (by omega) (by rw [hy75]; omega)) ev76 ?_
            refine xi_putfield (pc' := 196) (fs' := [.int u1, .int u2, .ref 116, .ref 117, .ref 118, .ref 119, .ref 120, .ref 121, .ref 122, .ref 123, .ref 124, .ref 125, .ref 126, .ref 127, .ref 128, .ref 129, .int u3, .ref 130, .int u4, .ref 131, .ref 132, .ref 133, .ref 134, .int u5, .ref 135, .ref 136, .ref 137, .ref 138, .ref 139, .ref 140, .ref 141, .ref 142, .int v76, .int u7, .int u8, .ref 143, .ref 144, .ref 145, .ref 146, .ref 147, .ref 148, .int u9, .ref 149, .ref 150, .ref 151, .int u10, .ref 152, .ref 153, .ref 154, .ref 155, .ref 156, .ref 157, .ref 158, .ref 159, .int u11, .ref 160, .int u12, .ref 161, .ref 162, .ref 163, .ref 164, .int u13, .ref 165, .ref 166]) kc_45_193 rfl rfl rfl A14 rfl rfl rfl (Nat.le_of_ble_eq_true rfl) rfl (fun hh78 eh77 => ?_)
            have K79 := xk_pf (k := 32) (v := v76) K (xk_wf rfl) xD_115 A14 rfl (by first | omega | decide) (by first | omega | decide) eh77 rfl
            refine xi_aload_n (pc' := 197) (x := 115) kc_45_196 rfl rfl ?_
            refine xi_aload_n (pc' := 198) (x := 115) kc_45_197 rfl rfl ?_
            refine xi_getfield (pc' := 201) (v := .ref 151) kc_45_198 rfl rfl rfl eh77.1 rfl ?_
            refine xi_iload (pc' := 203) (x := x5) kc_45_201 rfl rfl ?_
            obtain ⟨y80, A80, hy80, ry80⟩ := xk_arr K79.1 xD_151
            obtain ⟨v81, ev81, bv81, dv81⟩ := xj_get hy80 ry80 (i := x5) (by omega) (by omega)
            refine xi_iaload (pc' := 204) (v := v81) kc_45_203 rfl A80 (by decide) rfl (xi_in (by omega) (by rw [hy80]; omega)) ev81 ?_
            refine xi_putfield (pc' := 207) (fs' := [.int u1, .int u2, .ref 116, .ref 117, .ref 118, .ref 119, .ref 120, .ref 121, .ref 122, .ref 123, .ref 124, .ref 125, .ref 126, .ref 127, .ref 128, .ref 129, .int u3, .ref 130, .int u4, .ref 131, .ref 132, .ref 133, .ref 134, .int u5, .ref 135, .ref 136, .ref 137, .ref 138, .ref 139, .ref 140, .ref 141, .ref 142, .int v76, .int v81, .int u8, .ref 143, .ref 144, .ref 145, .ref 146, .ref 147, .ref 148, .int u9, .ref 149, .ref 150, .ref 151, .int u10, .ref 152, .ref 153, .ref 154, .ref 155, .ref 156, .ref 157, .ref 158, .ref 159, .int u11, .ref 160, .int u12, .ref 161, .ref 162, .ref 163, .ref 164, .int u13, .ref 165, .ref 166]) kc_45_204 rfl rfl rfl eh77.1 rfl rfl rfl (Nat.le_of_ble_eq_true rfl) rfl (fun hh83 eh82 => ?_)
            have K84 := xk_pf (k := 33) (v := v81) K79 (xk_wf rfl) xD_115 eh77.1 rfl (by first | omega | decide) (by first | omega | decide) eh82 rfl
            refine xi_aload_n (pc' := 208) (x := 115) kc_45_207 rfl rfl ?_
            refine xi_iload_n (pc' := 209) (x := x1) kc_45_208 rfl rfl ?_
            refine xi_iconst (pc' := 210) (v := 0) kc_45_209 rfl rfl ?_
            refine xi_iload (pc' := 212) (x := x5) kc_45_210 rfl rfl ?_
            refine xi_virtual (mj := 36) (as := [.int x1, .int 0, .int x5]) (st1 := []) (lv0 := [(0, .ref 115), (1, .int x1), (2, .int 0), (3, .int x5)]) kc_45_212 rfl rfl rfl rfl rfl eh82.1 (Nat.le_of_ble_eq_true rfl) (hJ _ _ _ _ (by decide)) (xm_le ml_36 rfl) rfl ?_
            have zc0 : (0 : Int32).toInt = 0 := by decide
            refine mt_36_0 hJ hov1 hov2 (d := d) (x1 := x1) (x2 := 0) (x3 := x5) K84.1 (by first | omega | decide) (by first | omega | decide) (by first | omega | decide) (fun hh86 K87 => ?_)
            have K88 := xk_tr K84 K87 rfl
            obtain ⟨u89, u90, u91, u92, u93, u94, u95, u96, u97, u98, u99, u100, u101, bu89, bu90, bu91, bu92, bu93, bu94, bu95, bu96, bu97, bu98, bu99, bu100, bu101, A102⟩ := xq_115 K88.1
            have e103 : u2 = u90 := xk_eqi (q := 1) K87 rfl eh82.1 A102 rfl rfl
            subst e103
            show xw J ov (d + 5) 45 (215, [(0, .ref 115), (1, .int x1), (2, .long w2), (4, .int x4), (5, .int x5)], [], hh86) _
            obtain ⟨v104, ev104⟩ : ∃ q : Int32, x5 + 1 = q := ⟨_, rfl⟩
            have zv104 : v104.toInt = (x5.toInt + 1) := by rw [← ev104]; exact (xz_add (X := x5.toInt) (Y := 1) rfl (by decide) (by omega) (by omega)).trans (by omega)
            refine xi_iinc (pc' := 218) (x := x5) (v := v104) (lv' := [(5, .int v104), (0, .ref 115), (1, .int x1), (2, .long w2), (4, .int x4)]) kc_45_215 rfl rfl ev104 rfl (xm_lt ml_45 rfl) ?_
            refine xi_goto (pc' := 56) kc_45_218 rfl ?_
            refine xw_lv (b := [(0, .ref 115), (1, .int x1), (2, .long w2), (4, .int x4), (5, .int v104)]) (lvS_cons (lvS_cons (lvS_cons (lvS_cons (lvS_cons (lvS_nil (show ([5, 0, 1, 2, 4] : List Nat).Nodup by decide)) rfl) rfl) rfl) rfl) rfl) ?_
            exact i2 x1 w2 x4 v104 hh86 (by omega) (by omega) (by omega) K88 (by omega)
set_option maxHeartbeats 4000000 in
theorem mt_45_0 {J : xe_J} {ov : List (List Int32)} (hJ : ∀ d mj as h, mj ≠ xe_loff → J d mj as h = none) (hov1 : ov[1]? = some [10, 0, 0, 0, 0, 0]) (hov2 : ov[2]? = some [99, 30, 50, 50, 1, 99999]) {d : Nat} {Q : Option Value → xe_H → Prop} {h : xe_H} {x1 : Int32} (T : xt h) (b1 : (0 ≤ x1.toInt ∧ x1.toInt ≤ 63)) (kk : (∀ (r : Int64) (h' : xe_H), xk [(0, 9), (115, 1), (83, 0), (6, 0), (123, 0), (9, 0), (124, 0), (7, 0), (10, 0), (5, 0), (8, 0)] h h' → Q (some (.long r)) h')) : xw J ov (d + 5) 45 (0, [(0, .ref 115), (1, .int x1)], [], h) Q := by
  have K : xk [(0, 9), (115, 1), (83, 0), (6, 0), (123, 0), (9, 0), (124, 0), (7, 0), (10, 0), (5, 0), (8, 0)] h h := xk_re T
  refine xi_lconst (pc' := 1) (v := 0) kc_45_0 rfl rfl ?_
  refine xi_lstore_n (pc' := 2) (lv' := [(2, .long 0), (0, .ref 115), (1, .int x1)]) kc_45_1 rfl rfl (xm_lt ml_45 rfl) ?_
  refine xi_iconst (pc' := 3) (v := 0) kc_45_2 rfl rfl ?_
  refine xi_istore (pc' := 5) (lv' := [(4, .int 0), (2, .long 0), (0, .ref 115), (1, .int x1)]) kc_45_3 rfl rfl (xm_lt ml_45 rfl) ?_
  refine xi_iconst (pc' := 6) (v := 0) kc_45_5 rfl rfl ?_
  refine xi_istore (pc' := 8) (lv' := [(5, .int 0), (4, .int 0), (2, .long 0), (0, .ref 115), (1, .int x1)]) kc_45_6 rfl rfl (xm_lt ml_45 rfl) ?_
  have zc0 : (0 : Int32).toInt = 0 := by decide
  refine xw_lv (b := [(0, .ref 115), (1, .int x1), (2, .long 0), (4, .int 0), (5, .int 0)]) (lvS_cons (lvS_cons (lvS_cons (lvS_cons (lvS_cons (lvS_nil (show ([5, 4, 2, 0, 1] : List Nat).Nodup by decide)) rfl) rfl) rfl) rfl) rfl) ?_
  exact (lp_45_0 hJ hov1 hov2 (d := d) (hb := h) (fun r9 h9 K9 => kk r9 h9 (xk_tr K K9 rfl)) 37344).1 x1 0 0 0 h (by omega) (by omega) (by omega) (xk_re K.1) (by omega)
set_option maxHeartbeats 4000000 in
theorem lp_43_0 {J : xe_J} {ov : List (List Int32)} (hJ : ∀ d mj as h, mj ≠ xe_loff → J d mj as h = none) (hov1 : ov[1]? = some [10, 0, 0, 0, 0, 0]) (hov2 : ov[2]? = some [99, 30, 50, 50, 1, 99999]) {d : Nat} {Q : Option Value → xe_H → Prop} {hb : xe_H} (kk : (∀ h' : xe_H, xk [(0, 9), (115, 1), (83, 0), (6, 0), (123, 0), (9, 0), (124, 0), (7, 0), (10, 0), (5, 0), (8, 0)] hb h' → Q none h')) : ∀ m : Nat, (∀ (x1 : Int32) (h : xe_H), (0 ≤ x1.toInt ∧ x1.toInt ≤ 64) → xk [(0, 9), (115, 1), (83, 0), (6, 0), (123, 0), (9, 0), (124, 0), (7, 0), (10, 0), (5, 0), (8, 0)] hb h → (-1) * x1.toInt + 64 < (m : Int) → xw J ov (d + 6) 43 (19, [(0, .ref 115), (1, .int x1)], [], h) Q) := by
  intro m
  induction m with
  | zero =>
    intro x1 h b1 K hm; exfalso; omega
  | succ m ih =>
    have i0 := ih
    intro x1 h b1 K hm
    refine xi_iload_n (pc' := 20) (x := x1) kc_43_19 rfl rfl ?_
    refine xi_aload_n (pc' := 21) (x := 115) kc_43_20 rfl rfl ?_
    obtain ⟨u1, u2, u3, u4, u5, u6, u7, u8, u9, u10, u11, u12, u13, bu1, bu2, bu3, bu4, bu5, bu6, bu7, bu8, bu9, bu10, bu11, bu12, bu13, A14⟩ := xq_115 K.1
    refine xi_virtual (mj := 42) (as := []) (st1 := [.int x1]) (lv0 := [(0, .ref 115)]) kc_43_21 rfl rfl rfl rfl rfl A14 (Nat.le_of_ble_eq_true rfl) (hJ _ _ _ _ (by decide)) (xm_le ml_42 rfl) rfl ?_
    refine xi_iconst (pc' := 1) (v := 1) kc_42_0 rfl rfl ?_
    refine xi_aload_n (pc' := 2) (x := 115) kc_42_1 rfl rfl ?_
    refine xi_getfield (pc' := 5) (v := .int u5) kc_42_2 rfl rfl rfl A14 rfl ?_
    refine xi_bipush (pc' := 7) (v := 6) kc_42_5 rfl rfl ?_
    by_cases c15 : 6 ≤ u5.toInt
    · refine xi_cmt (pc' := 17) kc_42_7 rfl (xc_ge_t (X := u5.toInt) (Y := 6) rfl (by decide) (by omega)) ?_
      refine xi_bipush (pc' := 19) (v := 6) kc_42_17 rfl rfl ?_
      refine xi_ishl (pc' := 20) (v := 64) kc_42_19 rfl rfl ?_
      refine xi_ireturn kc_42_20 mr_42 rfl ?_
      show xw J ov (d + 6) 43 (24, [(0, .ref 115), (1, .int x1)], [.int 64, .int x1], h) _
      by_cases c16 : 64 ≤ x1.toInt
      · refine xi_cmt (pc' := 44) kc_43_24 rfl (xc_ge_t (X := x1.toInt) (Y := 64) rfl (by decide) (by omega)) ?_
        refine xi_return kc_43_44 mr_43 ?_
        exact kk h K
      · refine xi_cmf (pc' := 27) kc_43_24 rfl (xc_ge_f (X := x1.toInt) (Y := 64) rfl (by decide) (by omega)) ?_
        refine xi_aload_n (pc' := 28) (x := 115) kc_43_27 rfl rfl ?_
        refine xi_getfield (pc' := 31) (v := .ref 149) kc_43_28 rfl rfl rfl A14 rfl ?_
        refine xi_iload_n (pc' := 32) (x := x1) kc_43_31 rfl rfl ?_
        refine xi_aload_n (pc' := 33) (x := 115) kc_43_32 rfl rfl ?_
        refine xi_iload_n (pc' := 34) (x := x1) kc_43_33 rfl rfl ?_
        refine xi_virtual (mj := 45) (as := [.int x1]) (st1 := [.int x1, .ref 149]) (lv0 := [(0, .ref 115), (1, .int x1)]) kc_43_34 rfl rfl rfl rfl rfl A14 (Nat.le_of_ble_eq_true rfl) (hJ _ _ _ _ (by decide)) (xm_le ml_45 rfl) rfl ?_
        refine mt_45_0 hJ hov1 hov2 (d := d) (x1 := x1) K.1 (by first | omega | decide) (fun r17 hh18 K19 => ?_)
        have K20 := xk_tr K K19 rfl
        obtain ⟨u21, u22, u23, u24, u25, u26, u27, u28, u29, u30, u31, u32, u33, bu21, bu22, bu23, bu24, bu25, bu26, bu27, bu28, bu29, bu30, bu31, bu32, bu33, A34⟩ := xq_115 K20.1
        have e35 : u2 = u22 := xk_eqi (q := 1) K19 rfl A14 A34 rfl rfl
        subst e35
        show xw J ov (d + 6) 43 (37, [(0, .ref 115), (1, .int x1)], [.long r17, .int x1, .ref 149], hh18) _
        obtain ⟨y36, A36, hy36⟩ := xk_larr K20.1 xD_149
        obtain ⟨y37, s37, hy37⟩ := xj_lset (v := r17) hy36 x1
        refine xi_lastore (pc' := 38) (x' := y37) kc_43_37 rfl A36 rfl (xi_in (by omega) (by rw [hy36]; omega)) s37 (fun hh37 eh37 => ?_)
        have K38 := xk_pla K20 (xk_wa rfl) xD_149 hy37 eh37
        obtain ⟨v39, ev39⟩ : ∃ q : Int32, x1 + 1 = q := ⟨_, rfl⟩
        have zv39 : v39.toInt = (x1.toInt + 1) := by rw [← ev39]; exact (xz_add (X := x1.toInt) (Y := 1) rfl (by decide) (by omega) (by omega)).trans (by omega)
        refine xi_iinc (pc' := 41) (x := x1) (v := v39) (lv' := [(1, .int v39), (0, .ref 115)]) kc_43_38 rfl rfl ev39 rfl (xm_lt ml_43 rfl) ?_
        refine xi_goto (pc' := 19) kc_43_41 rfl ?_
        refine xw_lv (b := [(0, .ref 115), (1, .int v39)]) (lvS_cons (lvS_cons (lvS_nil (show ([1, 0] : List Nat).Nodup by decide)) rfl) rfl) ?_
        exact i0 v39 hh37 (by omega) K38 (by omega)
    · refine xi_cmf (pc' := 10) kc_42_7 rfl (xc_ge_f (X := u5.toInt) (Y := 6) rfl (by decide) (by omega)) ?_
      refine xi_aload_n (pc' := 11) (x := 115) kc_42_10 rfl rfl ?_
      refine xi_getfield (pc' := 14) (v := .int u5) kc_42_11 rfl rfl rfl A14 rfl ?_
      refine xi_goto (pc' := 19) kc_42_14 rfl ?_
      obtain ⟨v40, ev40⟩ : ∃ q : Int32, (1 : Int32) <<< (u5 &&& 31) = q := ⟨_, rfl⟩
      have rv40 := xc_rng v40
      have bv40 : 1 ≤ v40.toInt ∧ v40.toInt ≤ 64 := by rw [← ev40]; exact xj_shl6 (by omega) (by omega)
      refine xi_ishl (pc' := 20) (v := v40) kc_42_19 rfl ev40 ?_
      refine xi_ireturn kc_42_20 mr_42 rfl ?_
      show xw J ov (d + 6) 43 (24, [(0, .ref 115), (1, .int x1)], [.int v40, .int x1], h) _
      by_cases c41 : v40.toInt ≤ x1.toInt
      · refine xi_cmt (pc' := 44) kc_43_24 rfl (xc_ge_t (X := x1.toInt) (Y := v40.toInt) rfl rfl (by omega)) ?_
        refine xi_return kc_43_44 mr_43 ?_
        exact kk h K
      · refine xi_cmf (pc' := 27) kc_43_24 rfl (xc_ge_f (X := x1.toInt) (Y := v40.toInt) rfl rfl (by omega)) ?_
        refine xi_aload_n (pc' := 28) (x := 115) kc_43_27 rfl rfl ?_
        refine xi_getfield (pc' := 31) (v := .ref 149) kc_43_28 rfl rfl rfl A14 rfl ?_
        refine xi_iload_n (pc' := 32) (x := x1) kc_43_31 rfl rfl ?_
        refine xi_aload_n (pc' := 33) (x := 115) kc_43_32 rfl rfl ?_
        refine xi_iload_n (pc' := 34) (x := x1) kc_43_33 rfl rfl ?_
        refine xi_virtual (mj := 45) (as := [.int x1]) (st1 := [.int x1, .ref 149]) (lv0 := [(0, .ref 115), (1, .int x1)]) kc_43_34 rfl rfl rfl rfl rfl A14 (Nat.le_of_ble_eq_true rfl) (hJ _ _ _ _ (by decide)) (xm_le ml_45 rfl) rfl ?_
        refine mt_45_0 hJ hov1 hov2 (d := d) (x1 := x1) K.1 (by first | omega | decide) (fun r42 hh43 K44 => ?_)
        have K45 := xk_tr K K44 rfl
        obtain ⟨u46, u47, u48, u49, u50, u51, u52, u53, u54, u55, u56, u57, u58, bu46, bu47, bu48, bu49, bu50, bu51, bu52, bu53, bu54, bu55, bu56, bu57, bu58, A59⟩ := xq_115 K45.1
        have e60 : u2 = u47 := xk_eqi (q := 1) K44 rfl A14 A59 rfl rfl
        subst e60
        show xw J ov (d + 6) 43 (37, [(0, .ref 115), (1, .int x1)], [.long r42, .int x1, .ref 149], hh43) _
        obtain ⟨y61, A61, hy61⟩ := xk_larr K45.1 xD_149
        obtain ⟨y62, s62, hy62⟩ := xj_lset (v := r42) hy61 x1
        refine xi_lastore (pc' := 38) (x' := y62) kc_43_37 rfl A61 rfl (xi_in (by omega) (by rw [hy61]; omega)) s62 (fun hh62 eh62 => ?_)
        have K63 := xk_pla K45 (xk_wa rfl) xD_149 hy62 eh62
        obtain ⟨v64, ev64⟩ : ∃ q : Int32, x1 + 1 = q := ⟨_, rfl⟩
        have zv64 : v64.toInt = (x1.toInt + 1) := by rw [← ev64]; exact (xz_add (X := x1.toInt) (Y := 1) rfl (by decide) (by omega) (by omega)).trans (by omega)
        refine xi_iinc (pc' := 41) (x := x1) (v := v64) (lv' := [(1, .int v64), (0, .ref 115)]) kc_43_38 rfl rfl ev64 rfl (xm_lt ml_43 rfl) ?_
        refine xi_goto (pc' := 19) kc_43_41 rfl ?_
        refine xw_lv (b := [(0, .ref 115), (1, .int v64)]) (lvS_cons (lvS_cons (lvS_nil (show ([1, 0] : List Nat).Nodup by decide)) rfl) rfl) ?_
        exact i0 v64 hh62 (by omega) K63 (by omega)
set_option maxHeartbeats 4000000 in
theorem mt_43_0 {J : xe_J} {ov : List (List Int32)} (hJ : ∀ d mj as h, mj ≠ xe_loff → J d mj as h = none) (hov1 : ov[1]? = some [10, 0, 0, 0, 0, 0]) (hov2 : ov[2]? = some [99, 30, 50, 50, 1, 99999]) {d : Nat} {Q : Option Value → xe_H → Prop} {h : xe_H} (T : xt h) (kk : (∀ h' : xe_H, xk [(0, 9), (115, 1), (83, 0), (6, 0), (123, 0), (9, 0), (124, 0), (7, 0), (10, 0), (5, 0), (8, 0)] h h' → Q none h')) : xw J ov (d + 6) 43 (0, [(0, .ref 115)], [], h) Q := by
  have K : xk [(0, 9), (115, 1), (83, 0), (6, 0), (123, 0), (9, 0), (124, 0), (7, 0), (10, 0), (5, 0), (8, 0)] h h := xk_re T
  refine xi_aload_n (pc' := 1) (x := 115) kc_43_0 rfl rfl ?_
  obtain ⟨u1, u2, u3, u4, u5, u6, u7, u8, u9, u10, u11, u12, u13, bu1, bu2, bu3, bu4, bu5, bu6, bu7, bu8, bu9, bu10, bu11, bu12, bu13, A14⟩ := xq_115 K.1
  refine xi_getfield (pc' := 4) (v := .int u9) kc_43_1 rfl rfl rfl A14 rfl ?_
  by_cases c15 : u9.toInt = 0
  · refine xi_ift (pc' := 8) kc_43_4 rfl (xc_eq_t (X := u9.toInt) (Y := 0) rfl (by decide) (by omega)) ?_
    refine xi_aload_n (pc' := 9) (x := 115) kc_43_8 rfl rfl ?_
    refine xi_iconst (pc' := 10) (v := 1) kc_43_9 rfl rfl ?_
    refine xi_putfield (pc' := 13) (fs' := [.int u1, .int u2, .ref 116, .ref 117, .ref 118, .ref 119, .ref 120, .ref 121, .ref 122, .ref 123, .ref 124, .ref 125, .ref 126, .ref 127, .ref 128, .ref 129, .int u3, .ref 130, .int u4, .ref 131, .ref 132, .ref 133, .ref 134, .int u5, .ref 135, .ref 136, .ref 137, .ref 138, .ref 139, .ref 140, .ref 141, .ref 142, .int u6, .int u7, .int u8, .ref 143, .ref 144, .ref 145, .ref 146, .ref 147, .ref 148, .int 1, .ref 149, .ref 150, .ref 151, .int u10, .ref 152, .ref 153, .ref 154, .ref 155, .ref 156, .ref 157, .ref 158, .ref 159, .int u11, .ref 160, .int u12, .ref 161, .ref 162, .ref 163, .ref 164, .int u13, .ref 165, .ref 166]) kc_43_10 rfl rfl rfl A14 rfl rfl rfl (Nat.le_of_ble_eq_true rfl) rfl (fun hh17 eh16 => ?_)
    have K18 := xk_pf (k := 41) (v := 1) K (xk_wf rfl) xD_115 A14 rfl (by first | omega | decide) (by first | omega | decide) eh16 rfl
    refine xi_aload_n (pc' := 14) (x := 115) kc_43_13 rfl rfl ?_
    refine xi_virtual (mj := 44) (as := []) (st1 := []) (lv0 := [(0, .ref 115)]) kc_43_14 rfl rfl rfl rfl rfl eh16.1 (Nat.le_of_ble_eq_true rfl) (hJ _ _ _ _ (by decide)) (xm_le ml_44 rfl) rfl ?_
    refine mt_44_0 hJ hov1 hov2 (d := d + 4)  K18.1 (fun hh20 K21 => ?_)
    have K22 := xk_tr K18 K21 rfl
    obtain ⟨u23, u24, u25, u26, u27, u28, u29, u30, u31, u32, u33, u34, u35, bu23, bu24, bu25, bu26, bu27, bu28, bu29, bu30, bu31, bu32, bu33, bu34, bu35, A36⟩ := xq_115 K22.1
    have e37 : u2 = u24 := xk_eqi (q := 1) K21 rfl eh16.1 A36 rfl rfl
    subst e37
    show xw J ov (d + 6) 43 (17, [(0, .ref 115)], [], hh20) _
    refine xi_iconst (pc' := 18) (v := 0) kc_43_17 rfl rfl ?_
    refine xi_istore_n (pc' := 19) (lv' := [(1, .int 0), (0, .ref 115)]) kc_43_18 rfl rfl (xm_lt ml_43 rfl) ?_
    have zc0 : (0 : Int32).toInt = 0 := by decide
    refine xw_lv (b := [(0, .ref 115), (1, .int 0)]) (lvS_cons (lvS_cons (lvS_nil (show ([1, 0] : List Nat).Nodup by decide)) rfl) rfl) ?_
    exact (lp_43_0 hJ hov1 hov2 (d := d) (hb := hh20) (fun h9 K9 => kk h9 (xk_tr K22 K9 rfl)) 65) 0 hh20 (by omega) (xk_re K22.1) (by omega)
  · refine xi_iff (pc' := 7) kc_43_4 rfl (xc_eq_f (X := u9.toInt) (Y := 0) rfl (by decide) (by omega)) ?_
    refine xi_return kc_43_7 mr_43 ?_
    exact kk h K
set_option maxHeartbeats 4000000 in
theorem mt_41_0 {J : xe_J} {ov : List (List Int32)} (hJ : ∀ d mj as h, mj ≠ xe_loff → J d mj as h = none) (hov1 : ov[1]? = some [10, 0, 0, 0, 0, 0]) (hov2 : ov[2]? = some [99, 30, 50, 50, 1, 99999]) {d : Nat} {Q : Option Value → xe_H → Prop} {h : xe_H} {x1 : Int32} (T : xt h) (kk : (∀ (r : Int64) (h' : xe_H), xk [(0, 9), (115, 1), (83, 0), (6, 0), (123, 0), (9, 0), (124, 0), (7, 0), (10, 0), (5, 0), (8, 0)] h h' → Q (some (.long r)) h')) : xw J ov (d + 7) 41 (0, [(0, .ref 115), (1, .int x1)], [], h) Q := by
  have K : xk [(0, 9), (115, 1), (83, 0), (6, 0), (123, 0), (9, 0), (124, 0), (7, 0), (10, 0), (5, 0), (8, 0)] h h := xk_re T
  have rx1 := xc_rng x1
  refine xi_aload_n (pc' := 1) (x := 115) kc_41_0 rfl rfl ?_
  refine xi_iload_n (pc' := 2) (x := x1) kc_41_1 rfl rfl ?_
  refine xi_iconst (pc' := 3) (v := 0) kc_41_2 rfl rfl ?_
  refine xi_aload_n (pc' := 4) (x := 115) kc_41_3 rfl rfl ?_
  obtain ⟨u1, u2, u3, u4, u5, u6, u7, u8, u9, u10, u11, u12, u13, bu1, bu2, bu3, bu4, bu5, bu6, bu7, bu8, bu9, bu10, bu11, bu12, bu13, A14⟩ := xq_115 K.1
  refine xi_virtual (mj := 42) (as := []) (st1 := [.int 0, .int x1, .ref 115]) (lv0 := [(0, .ref 115)]) kc_41_4 rfl rfl rfl rfl rfl A14 (Nat.le_of_ble_eq_true rfl) (hJ _ _ _ _ (by decide)) (xm_le ml_42 rfl) rfl ?_
  refine xi_iconst (pc' := 1) (v := 1) kc_42_0 rfl rfl ?_
  refine xi_aload_n (pc' := 2) (x := 115) kc_42_1 rfl rfl ?_
  refine xi_getfield (pc' := 5) (v := .int u5) kc_42_2 rfl rfl rfl A14 rfl ?_
  refine xi_bipush (pc' := 7) (v := 6) kc_42_5 rfl rfl ?_
  by_cases c15 : 6 ≤ u5.toInt
  · refine xi_cmt (pc' := 17) kc_42_7 rfl (xc_ge_t (X := u5.toInt) (Y := 6) rfl (by decide) (by omega)) ?_
    refine xi_bipush (pc' := 19) (v := 6) kc_42_17 rfl rfl ?_
    refine xi_ishl (pc' := 20) (v := 64) kc_42_19 rfl rfl ?_
    refine xi_ireturn kc_42_20 mr_42 rfl ?_
    show xw J ov (d + 7) 41 (7, [(0, .ref 115), (1, .int x1)], [.int 64, .int 0, .int x1, .ref 115], h) _
    refine xi_iconst (pc' := 8) (v := 1) kc_41_7 rfl rfl ?_
    refine xi_isub (pc' := 9) (v := 63) kc_41_8 rfl rfl ?_
    refine xi_static (mj := 11) (as := [.int x1, .int 0, .int 63]) (st1 := [.ref 115]) (lv0 := [(0, .int x1), (1, .int 0), (2, .int 63)]) kc_41_9 rfl rfl (Nat.le_of_ble_eq_true rfl) rfl rfl (Nat.le_of_ble_eq_true rfl) (hJ _ _ _ _ (by decide)) (xm_le ml_11 rfl) rfl ?_
    refine xi_iload_n (pc' := 1) (x := x1) kc_11_0 rfl rfl ?_
    refine xi_iload_n (pc' := 2) (x := 0) kc_11_1 rfl rfl ?_
    by_cases c16 : x1.toInt < 0
    · refine xi_cmt (pc' := 14) kc_11_2 rfl (xc_lt_t (X := x1.toInt) (Y := 0) rfl (by decide) (by omega)) ?_
      refine xi_iconst (pc' := 15) (v := 0) kc_11_14 rfl rfl ?_
      refine xi_ireturn kc_11_15 mr_11 rfl ?_
      show xw J ov (d + 7) 41 (12, [(0, .ref 115), (1, .int x1)], [.int 0, .ref 115], h) _
      refine xi_ift (pc' := 19) kc_41_12 rfl rfl ?_
      refine xi_iconst (pc' := 20) (v := 1) kc_41_19 rfl rfl ?_
      refine xi_putfield (pc' := 23) (fs' := [.int 1, .int u2, .ref 116, .ref 117, .ref 118, .ref 119, .ref 120, .ref 121, .ref 122, .ref 123, .ref 124, .ref 125, .ref 126, .ref 127, .ref 128, .ref 129, .int u3, .ref 130, .int u4, .ref 131, .ref 132, .ref 133, .ref 134, .int u5, .ref 135, .ref 136, .ref 137, .ref 138, .ref 139, .ref 140, .ref 141, .ref 142, .int u6, .int u7, .int u8, .ref 143, .ref 144, .ref 145, .ref 146, .ref 147, .ref 148, .int u9, .ref 149, .ref 150, .ref 151, .int u10, .ref 152, .ref 153, .ref 154, .ref 155, .ref 156, .ref 157, .ref 158, .ref 159, .int u11, .ref 160, .int u12, .ref 161, .ref 162, .ref 163, .ref 164, .int u13, .ref 165, .ref 166]) kc_41_20 rfl rfl rfl A14 rfl rfl rfl (Nat.le_of_ble_eq_true rfl) rfl (fun hh18 eh17 => ?_)
      have K19 := xk_pf (k := 0) (v := 1) K (xk_wf rfl) xD_115 A14 rfl (by first | omega | decide) (by first | omega | decide) eh17 rfl
      refine xi_aload_n (pc' := 24) (x := 115) kc_41_23 rfl rfl ?_
      refine xi_getfield (pc' := 27) (v := .int 1) kc_41_24 rfl rfl rfl eh17.1 rfl ?_
      refine xi_iff (pc' := 30) kc_41_27 rfl rfl ?_
      refine xi_lconst (pc' := 31) (v := 0) kc_41_30 rfl rfl ?_
      refine xi_lreturn kc_41_31 mr_41 ?_
      exact kk 0 hh18 K19
    · refine xi_cmf (pc' := 5) kc_11_2 rfl (xc_lt_f (X := x1.toInt) (Y := 0) rfl (by decide) (by omega)) ?_
      refine xi_iload_n (pc' := 6) (x := x1) kc_11_5 rfl rfl ?_
      refine xi_iload_n (pc' := 7) (x := 63) kc_11_6 rfl rfl ?_
      by_cases c20 : 63 < x1.toInt
      · refine xi_cmt (pc' := 14) kc_11_7 rfl (xc_gt_t (X := x1.toInt) (Y := 63) rfl (by decide) (by omega)) ?_
        refine xi_iconst (pc' := 15) (v := 0) kc_11_14 rfl rfl ?_
        refine xi_ireturn kc_11_15 mr_11 rfl ?_
        show xw J ov (d + 7) 41 (12, [(0, .ref 115), (1, .int x1)], [.int 0, .ref 115], h) _
        refine xi_ift (pc' := 19) kc_41_12 rfl rfl ?_
        refine xi_iconst (pc' := 20) (v := 1) kc_41_19 rfl rfl ?_
        refine xi_putfield (pc' := 23) (fs' := [.int 1, .int u2, .ref 116, .ref 117, .ref 118, .ref 119, .ref 120, .ref 121, .ref 122, .ref 123, .ref 124, .ref 125, .ref 126, .ref 127, .ref 128, .ref 129, .int u3, .ref 130, .int u4, .ref 131, .ref 132, .ref 133, .ref 134, .int u5, .ref 135, .ref 136, .ref 137, .ref 138, .ref 139, .ref 140, .ref 141, .ref 142, .int u6, .int u7, .int u8, .ref 143, .ref 144, .ref 145, .ref 146, .ref 147, .ref 148, .int u9, .ref 149, .ref 150, .ref 151, .int u10, .ref 152, .ref 153, .ref 154, .ref 155, .ref 156, .ref 157, .ref 158, .ref 159, .int u11, .ref 160, .int u12, .ref 161, .ref 162, .ref 163, .ref 164, .int u13, .ref 165, .ref 166]) kc_41_20 rfl rfl rfl A14 rfl rfl rfl (Nat.le_of_ble_eq_true rfl) rfl (fun hh22 eh21 => ?_)
        have K23 := xk_pf (k := 0) (v := 1) K (xk_wf rfl) xD_115 A14 rfl (by first | omega | decide) (by first | omega | decide) eh21 rfl
        refine xi_aload_n (pc' := 24) (x := 115) kc_41_23 rfl rfl ?_
        refine xi_getfield (pc' := 27) (v := .int 1) kc_41_24 rfl rfl rfl eh21.1 rfl ?_
        refine xi_iff (pc' := 30) kc_41_27 rfl rfl ?_
        refine xi_lconst (pc' := 31) (v := 0) kc_41_30 rfl rfl ?_
        refine xi_lreturn kc_41_31 mr_41 ?_
        exact kk 0 hh22 K23
      · refine xi_cmf (pc' := 10) kc_11_7 rfl (xc_gt_f (X := x1.toInt) (Y := 63) rfl (by decide) (by omega)) ?_
        refine xi_iconst (pc' := 11) (v := 1) kc_11_10 rfl rfl ?_
        refine xi_goto (pc' := 15) kc_11_11 rfl ?_
        refine xi_ireturn kc_11_15 mr_11 rfl ?_
        show xw J ov (d + 7) 41 (12, [(0, .ref 115), (1, .int x1)], [.int 1, .ref 115], h) _
        refine xi_iff (pc' := 15) kc_41_12 rfl rfl ?_
        refine xi_iconst (pc' := 16) (v := 0) kc_41_15 rfl rfl ?_
        refine xi_goto (pc' := 20) kc_41_16 rfl ?_
        refine xi_putfield (pc' := 23) (fs' := [.int 0, .int u2, .ref 116, .ref 117, .ref 118, .ref 119, .ref 120, .ref 121, .ref 122, .ref 123, .ref 124, .ref 125, .ref 126, .ref 127, .ref 128, .ref 129, .int u3, .ref 130, .int u4, .ref 131, .ref 132, .ref 133, .ref 134, .int u5, .ref 135, .ref 136, .ref 137, .ref 138, .ref 139, .ref 140, .ref 141, .ref 142, .int u6, .int u7, .int u8, .ref 143, .ref 144, .ref 145, .ref 146, .ref 147, .ref 148, .int u9, .ref 149, .ref 150, .ref 151, .int u10, .ref 152, .ref 153, .ref 154, .ref 155, .ref 156, .ref 157, .ref 158, .ref 159, .int u11, .ref 160, .int u12, .ref 161, .ref 162, .ref 163, .ref 164, .int u13, .ref 165, .ref 166]) kc_41_20 rfl rfl rfl A14 rfl rfl rfl (Nat.le_of_ble_eq_true rfl) rfl (fun hh25 eh24 => ?_)
        have K26 := xk_pf (k := 0) (v := 0) K (xk_wf rfl) xD_115 A14 rfl (by first | omega | decide) (by first | omega | decide) eh24 rfl
        refine xi_aload_n (pc' := 24) (x := 115) kc_41_23 rfl rfl ?_
        refine xi_getfield (pc' := 27) (v := .int 0) kc_41_24 rfl rfl rfl eh24.1 rfl ?_
        refine xi_ift (pc' := 32) kc_41_27 rfl rfl ?_
        refine xi_aload_n (pc' := 33) (x := 115) kc_41_32 rfl rfl ?_
        refine xi_virtual (mj := 43) (as := []) (st1 := []) (lv0 := [(0, .ref 115)]) kc_41_33 rfl rfl rfl rfl rfl eh24.1 (Nat.le_of_ble_eq_true rfl) (hJ _ _ _ _ (by decide)) (xm_le ml_43 rfl) rfl ?_
        refine mt_43_0 hJ hov1 hov2 (d := d)  K26.1 (fun hh28 K29 => ?_)
        have K30 := xk_tr K26 K29 rfl
        obtain ⟨u31, u32, u33, u34, u35, u36, u37, u38, u39, u40, u41, u42, u43, bu31, bu32, bu33, bu34, bu35, bu36, bu37, bu38, bu39, bu40, bu41, bu42, bu43, A44⟩ := xq_115 K30.1
        have e45 : u2 = u32 := xk_eqi (q := 1) K29 rfl eh24.1 A44 rfl rfl
        subst e45
        show xw J ov (d + 7) 41 (36, [(0, .ref 115), (1, .int x1)], [], hh28) _
        refine xi_aload_n (pc' := 37) (x := 115) kc_41_36 rfl rfl ?_
        refine xi_getfield (pc' := 40) (v := .ref 149) kc_41_37 rfl rfl rfl A44 rfl ?_
        refine xi_iload_n (pc' := 41) (x := x1) kc_41_40 rfl rfl ?_
        obtain ⟨y46, A46, hy46⟩ := xk_larr K30.1 xD_149
        obtain ⟨v47, ev47⟩ : ∃ q : Int64, y46.getD (Int32.toNatClampNeg x1) 0 = q := ⟨_, rfl⟩
        refine xi_laload (pc' := 42) (v := v47) kc_41_41 rfl A46 rfl (xi_in (by omega) (by rw [hy46]; omega)) ev47 ?_
        refine xi_lreturn kc_41_42 mr_41 ?_
        exact kk v47 hh28 K30
  · refine xi_cmf (pc' := 10) kc_42_7 rfl (xc_ge_f (X := u5.toInt) (Y := 6) rfl (by decide) (by omega)) ?_
    refine xi_aload_n (pc' := 11) (x := 115) kc_42_10 rfl rfl ?_
    refine xi_getfield (pc' := 14) (v := .int u5) kc_42_11 rfl rfl rfl A14 rfl ?_
    refine xi_goto (pc' := 19) kc_42_14 rfl ?_
    obtain ⟨v48, ev48⟩ : ∃ q : Int32, (1 : Int32) <<< (u5 &&& 31) = q := ⟨_, rfl⟩
    have rv48 := xc_rng v48
    have bv48 : 1 ≤ v48.toInt ∧ v48.toInt ≤ 64 := by rw [← ev48]; exact xj_shl6 (by omega) (by omega)
    refine xi_ishl (pc' := 20) (v := v48) kc_42_19 rfl ev48 ?_
    refine xi_ireturn kc_42_20 mr_42 rfl ?_
    show xw J ov (d + 7) 41 (7, [(0, .ref 115), (1, .int x1)], [.int v48, .int 0, .int x1, .ref 115], h) _
    refine xi_iconst (pc' := 8) (v := 1) kc_41_7 rfl rfl ?_
    obtain ⟨v49, ev49⟩ : ∃ q : Int32, v48 - 1 = q := ⟨_, rfl⟩
    have zv49 : v49.toInt = (v48.toInt + (-1)) := by rw [← ev49]; exact (xz_sub (X := v48.toInt) (Y := 1) rfl (by decide) (by omega) (by omega)).trans (by omega)
    refine xi_isub (pc' := 9) (v := v49) kc_41_8 rfl ev49 ?_
    refine xi_static (mj := 11) (as := [.int x1, .int 0, .int v49]) (st1 := [.ref 115]) (lv0 := [(0, .int x1), (1, .int 0), (2, .int v49)]) kc_41_9 rfl rfl (Nat.le_of_ble_eq_true rfl) rfl rfl (Nat.le_of_ble_eq_true rfl) (hJ _ _ _ _ (by decide)) (xm_le ml_11 rfl) rfl ?_
    refine xi_iload_n (pc' := 1) (x := x1) kc_11_0 rfl rfl ?_
    refine xi_iload_n (pc' := 2) (x := 0) kc_11_1 rfl rfl ?_
    by_cases c50 : x1.toInt < 0
    · refine xi_cmt (pc' := 14) kc_11_2 rfl (xc_lt_t (X := x1.toInt) (Y := 0) rfl (by decide) (by omega)) ?_
      refine xi_iconst (pc' := 15) (v := 0) kc_11_14 rfl rfl ?_
      refine xi_ireturn kc_11_15 mr_11 rfl ?_
      show xw J ov (d + 7) 41 (12, [(0, .ref 115), (1, .int x1)], [.int 0, .ref 115], h) _
      refine xi_ift (pc' := 19) kc_41_12 rfl rfl ?_
      refine xi_iconst (pc' := 20) (v := 1) kc_41_19 rfl rfl ?_
      refine xi_putfield (pc' := 23) (fs' := [.int 1, .int u2, .ref 116, .ref 117, .ref 118, .ref 119, .ref 120, .ref 121, .ref 122, .ref 123, .ref 124, .ref 125, .ref 126, .ref 127, .ref 128, .ref 129, .int u3, .ref 130, .int u4, .ref 131, .ref 132, .ref 133, .ref 134, .int u5, .ref 135, .ref 136, .ref 137, .ref 138, .ref 139, .ref 140, .ref 141, .ref 142, .int u6, .int u7, .int u8, .ref 143, .ref 144, .ref 145, .ref 146, .ref 147, .ref 148, .int u9, .ref 149, .ref 150, .ref 151, .int u10, .ref 152, .ref 153, .ref 154, .ref 155, .ref 156, .ref 157, .ref 158, .ref 159, .int u11, .ref 160, .int u12, .ref 161, .ref 162, .ref 163, .ref 164, .int u13, .ref 165, .ref 166]) kc_41_20 rfl rfl rfl A14 rfl rfl rfl (Nat.le_of_ble_eq_true rfl) rfl (fun hh52 eh51 => ?_)
      have K53 := xk_pf (k := 0) (v := 1) K (xk_wf rfl) xD_115 A14 rfl (by first | omega | decide) (by first | omega | decide) eh51 rfl
      refine xi_aload_n (pc' := 24) (x := 115) kc_41_23 rfl rfl ?_
      refine xi_getfield (pc' := 27) (v := .int 1) kc_41_24 rfl rfl rfl eh51.1 rfl ?_
      refine xi_iff (pc' := 30) kc_41_27 rfl rfl ?_
      refine xi_lconst (pc' := 31) (v := 0) kc_41_30 rfl rfl ?_
      refine xi_lreturn kc_41_31 mr_41 ?_
      exact kk 0 hh52 K53
    · refine xi_cmf (pc' := 5) kc_11_2 rfl (xc_lt_f (X := x1.toInt) (Y := 0) rfl (by decide) (by omega)) ?_
      refine xi_iload_n (pc' := 6) (x := x1) kc_11_5 rfl rfl ?_
      refine xi_iload_n (pc' := 7) (x := v49) kc_11_6 rfl rfl ?_
      by_cases c54 : (v48.toInt + (-1)) < x1.toInt
      · refine xi_cmt (pc' := 14) kc_11_7 rfl (xc_gt_t (X := x1.toInt) (Y := (v48.toInt + (-1))) rfl zv49 (by omega)) ?_
        refine xi_iconst (pc' := 15) (v := 0) kc_11_14 rfl rfl ?_
        refine xi_ireturn kc_11_15 mr_11 rfl ?_
        show xw J ov (d + 7) 41 (12, [(0, .ref 115), (1, .int x1)], [.int 0, .ref 115], h) _
        refine xi_ift (pc' := 19) kc_41_12 rfl rfl ?_
        refine xi_iconst (pc' := 20) (v := 1) kc_41_19 rfl rfl ?_
        refine xi_putfield (pc' := 23) (fs' := [.int 1, .int u2, .ref 116, .ref 117, .ref 118, .ref 119, .ref 120, .ref 121, .ref 122, .ref 123, .ref 124, .ref 125, .ref 126, .ref 127, .ref 128, .ref 129, .int u3, .ref 130, .int u4, .ref 131, .ref 132, .ref 133, .ref 134, .int u5, .ref 135, .ref 136, .ref 137, .ref 138, .ref 139, .ref 140, .ref 141, .ref 142, .int u6, .int u7, .int u8, .ref 143, .ref 144, .ref 145, .ref 146, .ref 147, .ref 148, .int u9, .ref 149, .ref 150, .ref 151, .int u10, .ref 152, .ref 153, .ref 154, .ref 155, .ref 156, .ref 157, .ref 158, .ref 159, .int u11, .ref 160, .int u12, .ref 161, .ref 162, .ref 163, .ref 164, .int u13, .ref 165, .ref 166]) kc_41_20 rfl rfl rfl A14 rfl rfl rfl (Nat.le_of_ble_eq_true rfl) rfl (fun hh56 eh55 => ?_)
        have K57 := xk_pf (k := 0) (v := 1) K (xk_wf rfl) xD_115 A14 rfl (by first | omega | decide) (by first | omega | decide) eh55 rfl
        refine xi_aload_n (pc' := 24) (x := 115) kc_41_23 rfl rfl ?_
        refine xi_getfield (pc' := 27) (v := .int 1) kc_41_24 rfl rfl rfl eh55.1 rfl ?_
        refine xi_iff (pc' := 30) kc_41_27 rfl rfl ?_
        refine xi_lconst (pc' := 31) (v := 0) kc_41_30 rfl rfl ?_
        refine xi_lreturn kc_41_31 mr_41 ?_
        exact kk 0 hh56 K57
      · refine xi_cmf (pc' := 10) kc_11_7 rfl (xc_gt_f (X := x1.toInt) (Y := (v48.toInt + (-1))) rfl zv49 (by omega)) ?_
        refine xi_iconst (pc' := 11) (v := 1) kc_11_10 rfl rfl ?_
        refine xi_goto (pc' := 15) kc_11_11 rfl ?_
        refine xi_ireturn kc_11_15 mr_11 rfl ?_
        show xw J ov (d + 7) 41 (12, [(0, .ref 115), (1, .int x1)], [.int 1, .ref 115], h) _
        refine xi_iff (pc' := 15) kc_41_12 rfl rfl ?_
        refine xi_iconst (pc' := 16) (v := 0) kc_41_15 rfl rfl ?_
        refine xi_goto (pc' := 20) kc_41_16 rfl ?_
        refine xi_putfield (pc' := 23) (fs' := [.int 0, .int u2, .ref 116, .ref 117, .ref 118, .ref 119, .ref 120, .ref 121, .ref 122, .ref 123, .ref 124, .ref 125, .ref 126, .ref 127, .ref 128, .ref 129, .int u3, .ref 130, .int u4, .ref 131, .ref 132, .ref 133, .ref 134, .int u5, .ref 135, .ref 136, .ref 137, .ref 138, .ref 139, .ref 140, .ref 141, .ref 142, .int u6, .int u7, .int u8, .ref 143, .ref 144, .ref 145, .ref 146, .ref 147, .ref 148, .int u9, .ref 149, .ref 150, .ref 151, .int u10, .ref 152, .ref 153, .ref 154, .ref 155, .ref 156, .ref 157, .ref 158, .ref 159, .int u11, .ref 160, .int u12, .ref 161, .ref 162, .ref 163, .ref 164, .int u13, .ref 165, .ref 166]) kc_41_20 rfl rfl rfl A14 rfl rfl rfl (Nat.le_of_ble_eq_true rfl) rfl (fun hh59 eh58 => ?_)
        have K60 := xk_pf (k := 0) (v := 0) K (xk_wf rfl) xD_115 A14 rfl (by first | omega | decide) (by first | omega | decide) eh58 rfl
        refine xi_aload_n (pc' := 24) (x := 115) kc_41_23 rfl rfl ?_
        refine xi_getfield (pc' := 27) (v := .int 0) kc_41_24 rfl rfl rfl eh58.1 rfl ?_
        refine xi_ift (pc' := 32) kc_41_27 rfl rfl ?_
        refine xi_aload_n (pc' := 33) (x := 115) kc_41_32 rfl rfl ?_
        refine xi_virtual (mj := 43) (as := []) (st1 := []) (lv0 := [(0, .ref 115)]) kc_41_33 rfl rfl rfl rfl rfl eh58.1 (Nat.le_of_ble_eq_true rfl) (hJ _ _ _ _ (by decide)) (xm_le ml_43 rfl) rfl ?_
        refine mt_43_0 hJ hov1 hov2 (d := d)  K60.1 (fun hh62 K63 => ?_)
        have K64 := xk_tr K60 K63 rfl
        obtain ⟨u65, u66, u67, u68, u69, u70, u71, u72, u73, u74, u75, u76, u77, bu65, bu66, bu67, bu68, bu69, bu70, bu71, bu72, bu73, bu74, bu75, bu76, bu77, A78⟩ := xq_115 K64.1
        have e79 : u2 = u66 := xk_eqi (q := 1) K63 rfl eh58.1 A78 rfl rfl
        subst e79
        show xw J ov (d + 7) 41 (36, [(0, .ref 115), (1, .int x1)], [], hh62) _
        refine xi_aload_n (pc' := 37) (x := 115) kc_41_36 rfl rfl ?_
        refine xi_getfield (pc' := 40) (v := .ref 149) kc_41_37 rfl rfl rfl A78 rfl ?_
        refine xi_iload_n (pc' := 41) (x := x1) kc_41_40 rfl rfl ?_
        obtain ⟨y80, A80, hy80⟩ := xk_larr K64.1 xD_149
        obtain ⟨v81, ev81⟩ : ∃ q : Int64, y80.getD (Int32.toNatClampNeg x1) 0 = q := ⟨_, rfl⟩
        refine xi_laload (pc' := 42) (v := v81) kc_41_41 rfl A80 rfl (xi_in (by omega) (by rw [hy80]; omega)) ev81 ?_
        refine xi_lreturn kc_41_42 mr_41 ?_
        exact kk v81 hh62 K64
set_option maxHeartbeats 4000000 in
theorem mt_46_0 {J : xe_J} {ov : List (List Int32)} (hJ : ∀ d mj as h, mj ≠ xe_loff → J d mj as h = none) (hov1 : ov[1]? = some [10, 0, 0, 0, 0, 0]) (hov2 : ov[2]? = some [99, 30, 50, 50, 1, 99999]) {d : Nat} {Q : Option Value → xe_H → Prop} {h : xe_H} {x1 : Int32} {x2 : Int32} (T : xt h) (kk : (∀ (r : Int32) (h' : xe_H), xk [(0, 9), (115, 1), (83, 0), (6, 0), (123, 0), (9, 0), (124, 0), (7, 0), (10, 0), (5, 0), (8, 0)] h h' → Q (some (.int r)) h')) : xw J ov (d + 6) 46 (0, [(0, .ref 115), (1, .int x1), (2, .int x2)], [], h) Q := by
  have K : xk [(0, 9), (115, 1), (83, 0), (6, 0), (123, 0), (9, 0), (124, 0), (7, 0), (10, 0), (5, 0), (8, 0)] h h := xk_re T
  have rx1 := xc_rng x1
  have rx2 := xc_rng x2
  refine xi_aload_n (pc' := 1) (x := 115) kc_46_0 rfl rfl ?_
  refine xi_iconst (pc' := 2) (v := 0) kc_46_1 rfl rfl ?_
  obtain ⟨u1, u2, u3, u4, u5, u6, u7, u8, u9, u10, u11, u12, u13, bu1, bu2, bu3, bu4, bu5, bu6, bu7, bu8, bu9, bu10, bu11, bu12, bu13, A14⟩ := xq_115 K.1
  refine xi_putfield (pc' := 5) (fs' := [.int 0, .int u2, .ref 116, .ref 117, .ref 118, .ref 119, .ref 120, .ref 121, .ref 122, .ref 123, .ref 124, .ref 125, .ref 126, .ref 127, .ref 128, .ref 129, .int u3, .ref 130, .int u4, .ref 131, .ref 132, .ref 133, .ref 134, .int u5, .ref 135, .ref 136, .ref 137, .ref 138, .ref 139, .ref 140, .ref 141, .ref 142, .int u6, .int u7, .int u8, .ref 143, .ref 144, .ref 145, .ref 146, .ref 147, .ref 148, .int u9, .ref 149, .ref 150, .ref 151, .int u10, .ref 152, .ref 153, .ref 154, .ref 155, .ref 156, .ref 157, .ref 158, .ref 159, .int u11, .ref 160, .int u12, .ref 161, .ref 162, .ref 163, .ref 164, .int u13, .ref 165, .ref 166]) kc_46_2 rfl rfl rfl A14 rfl rfl rfl (Nat.le_of_ble_eq_true rfl) rfl (fun hh16 eh15 => ?_)
  have K17 := xk_pf (k := 0) (v := 0) K (xk_wf rfl) xD_115 A14 rfl (by first | omega | decide) (by first | omega | decide) eh15 rfl
  refine xi_aload_n (pc' := 6) (x := 115) kc_46_5 rfl rfl ?_
  refine xi_iload_n (pc' := 7) (x := x2) kc_46_6 rfl rfl ?_
  refine xi_virtual (mj := 31) (as := [.int x2]) (st1 := []) (lv0 := [(0, .ref 115), (1, .int x2)]) kc_46_7 rfl rfl rfl rfl rfl eh15.1 (Nat.le_of_ble_eq_true rfl) (hJ _ _ _ _ (by decide)) (xm_le ml_31 rfl) rfl ?_
  refine xi_iload_n (pc' := 1) (x := x2) kc_31_0 rfl rfl ?_
  refine xi_static (mj := 24) (as := [.int x2]) (st1 := []) (lv0 := [(0, .int x2)]) kc_31_1 rfl rfl (Nat.le_of_ble_eq_true rfl) rfl rfl (Nat.le_of_ble_eq_true rfl) (hJ _ _ _ _ (by decide)) (xm_le ml_24 rfl) rfl ?_
  refine xi_iload_n (pc' := 1) (x := x2) kc_24_0 rfl rfl ?_
  refine xi_iconst (pc' := 2) (v := 0) kc_24_1 rfl rfl ?_
  refine xi_bipush (pc' := 4) (v := 11) kc_24_2 rfl rfl ?_
  refine xi_static (mj := 11) (as := [.int x2, .int 0, .int 11]) (st1 := []) (lv0 := [(0, .int x2), (1, .int 0), (2, .int 11)]) kc_24_4 rfl rfl (Nat.le_of_ble_eq_true rfl) rfl rfl (Nat.le_of_ble_eq_true rfl) (hJ _ _ _ _ (by decide)) (xm_le ml_11 rfl) rfl ?_
  refine xi_iload_n (pc' := 1) (x := x2) kc_11_0 rfl rfl ?_
  refine xi_iload_n (pc' := 2) (x := 0) kc_11_1 rfl rfl ?_
  by_cases c18 : x2.toInt < 0
  · refine xi_cmt (pc' := 14) kc_11_2 rfl (xc_lt_t (X := x2.toInt) (Y := 0) rfl (by decide) (by omega)) ?_
    refine xi_iconst (pc' := 15) (v := 0) kc_11_14 rfl rfl ?_
    refine xi_ireturn kc_11_15 mr_11 rfl ?_
    show xw J ov (d + 4) 24 (7, [(0, .int x2)], [.int 0], hh16) _
    refine xi_ireturn kc_24_7 mr_24 rfl ?_
    show xw J ov (d + 5) 31 (4, [(0, .ref 115), (1, .int x2)], [.int 0], hh16) _
    refine xi_ift (pc' := 20) kc_31_4 rfl rfl ?_
    refine xi_iconst (pc' := 21) (v := 0) kc_31_20 rfl rfl ?_
    refine xi_ireturn kc_31_21 mr_31 rfl ?_
    show xw J ov (d + 6) 46 (10, [(0, .ref 115), (1, .int x1), (2, .int x2)], [.int 0], hh16) _
    refine xi_iff (pc' := 13) kc_46_10 rfl rfl ?_
    refine xi_aload_n (pc' := 14) (x := 115) kc_46_13 rfl rfl ?_
    refine xi_iconst (pc' := 15) (v := (-1)) kc_46_14 rfl rfl ?_
    refine xi_virtual (mj := 12) (as := [.int (-1)]) (st1 := []) (lv0 := [(0, .ref 115), (1, .int (-1))]) kc_46_15 rfl rfl rfl rfl rfl eh15.1 (Nat.le_of_ble_eq_true rfl) (hJ _ _ _ _ (by decide)) (xm_le ml_12 rfl) rfl ?_
    refine xi_aload_n (pc' := 1) (x := 115) kc_12_0 rfl rfl ?_
    refine xi_getfield (pc' := 4) (v := .ref 140) kc_12_1 rfl rfl rfl eh15.1 rfl ?_
    refine xi_iload_n (pc' := 5) (x := (-1)) kc_12_4 rfl rfl ?_
    refine xi_ineg (pc' := 6) (v := 1) kc_12_5 rfl rfl ?_
    refine xi_dup2 (pc' := 7) kc_12_6 rfl ⟨rfl, rfl⟩ ?_
    obtain ⟨y19, A19, hy19, ry19⟩ := xk_arr K17.1 xD_140
    obtain ⟨v20, ev20, bv20, dv20⟩ := xj_get hy19 ry19 (i := 1) (by decide) (by decide)
    refine xi_iaload (pc' := 8) (v := v20) kc_12_7 rfl A19 (by decide) rfl (xi_in (by decide) (by rw [hy19]; decide)) ev20 ?_
    refine xi_iconst (pc' := 9) (v := 1) kc_12_8 rfl rfl ?_
    obtain ⟨v21, ev21⟩ : ∃ q : Int32, (v20 : Int32) + 1 = q := ⟨_, rfl⟩
    have rv21 := xc_rng v21
    refine xi_iadd (pc' := 10) (v := v21) kc_12_9 rfl ev21 ?_
    obtain ⟨y22, s22, hy22, ry22⟩ := xj_set (v := v21) hy19 ry19 1 (by first | omega | decide) (by first | omega | decide)
    refine xi_iastore (pc' := 11) (x' := y22) kc_12_10 rfl A19 rfl (xi_in (by decide) (by rw [hy19]; decide)) s22 (fun hh22 eh22 => ?_)
    have K23 := xk_pa K17 (xk_wa rfl) xD_140 hy22 ry22 eh22
    refine xi_iload_n (pc' := 12) (x := (-1)) kc_12_11 rfl rfl ?_
    refine xi_ireturn kc_12_12 mr_12 rfl ?_
    show xw J ov (d + 6) 46 (18, [(0, .ref 115), (1, .int x1), (2, .int x2)], [.int (-1)], hh22) _
    refine xi_ireturn kc_46_18 mr_46 rfl ?_
    have zcm1 : ((-1) : Int32).toInt = (-1) := by decide
    exact kk (-1) hh22 K23
  · refine xi_cmf (pc' := 5) kc_11_2 rfl (xc_lt_f (X := x2.toInt) (Y := 0) rfl (by decide) (by omega)) ?_
    refine xi_iload_n (pc' := 6) (x := x2) kc_11_5 rfl rfl ?_
    refine xi_iload_n (pc' := 7) (x := 11) kc_11_6 rfl rfl ?_
    by_cases c24 : 11 < x2.toInt
    · refine xi_cmt (pc' := 14) kc_11_7 rfl (xc_gt_t (X := x2.toInt) (Y := 11) rfl (by decide) (by omega)) ?_
      refine xi_iconst (pc' := 15) (v := 0) kc_11_14 rfl rfl ?_
      refine xi_ireturn kc_11_15 mr_11 rfl ?_
      show xw J ov (d + 4) 24 (7, [(0, .int x2)], [.int 0], hh16) _
      refine xi_ireturn kc_24_7 mr_24 rfl ?_
      show xw J ov (d + 5) 31 (4, [(0, .ref 115), (1, .int x2)], [.int 0], hh16) _
      refine xi_ift (pc' := 20) kc_31_4 rfl rfl ?_
      refine xi_iconst (pc' := 21) (v := 0) kc_31_20 rfl rfl ?_
      refine xi_ireturn kc_31_21 mr_31 rfl ?_
      show xw J ov (d + 6) 46 (10, [(0, .ref 115), (1, .int x1), (2, .int x2)], [.int 0], hh16) _
      refine xi_iff (pc' := 13) kc_46_10 rfl rfl ?_
      refine xi_aload_n (pc' := 14) (x := 115) kc_46_13 rfl rfl ?_
      refine xi_iconst (pc' := 15) (v := (-1)) kc_46_14 rfl rfl ?_
      refine xi_virtual (mj := 12) (as := [.int (-1)]) (st1 := []) (lv0 := [(0, .ref 115), (1, .int (-1))]) kc_46_15 rfl rfl rfl rfl rfl eh15.1 (Nat.le_of_ble_eq_true rfl) (hJ _ _ _ _ (by decide)) (xm_le ml_12 rfl) rfl ?_
      refine xi_aload_n (pc' := 1) (x := 115) kc_12_0 rfl rfl ?_
      refine xi_getfield (pc' := 4) (v := .ref 140) kc_12_1 rfl rfl rfl eh15.1 rfl ?_
      refine xi_iload_n (pc' := 5) (x := (-1)) kc_12_4 rfl rfl ?_
      refine xi_ineg (pc' := 6) (v := 1) kc_12_5 rfl rfl ?_
      refine xi_dup2 (pc' := 7) kc_12_6 rfl ⟨rfl, rfl⟩ ?_
      obtain ⟨y25, A25, hy25, ry25⟩ := xk_arr K17.1 xD_140
      obtain ⟨v26, ev26, bv26, dv26⟩ := xj_get hy25 ry25 (i := 1) (by decide) (by decide)
      refine xi_iaload (pc' := 8) (v := v26) kc_12_7 rfl A25 (by decide) rfl (xi_in (by decide) (by rw [hy25]; decide)) ev26 ?_
      refine xi_iconst (pc' := 9) (v := 1) kc_12_8 rfl rfl ?_
      obtain ⟨v27, ev27⟩ : ∃ q : Int32, (v26 : Int32) + 1 = q := ⟨_, rfl⟩
      have rv27 := xc_rng v27
      refine xi_iadd (pc' := 10) (v := v27) kc_12_9 rfl ev27 ?_
      obtain ⟨y28, s28, hy28, ry28⟩ := xj_set (v := v27) hy25 ry25 1 (by first | omega | decide) (by first | omega | decide)
      refine xi_iastore (pc' := 11) (x' := y28) kc_12_10 rfl A25 rfl (xi_in (by decide) (by rw [hy25]; decide)) s28 (fun hh28 eh28 => ?_)
      have K29 := xk_pa K17 (xk_wa rfl) xD_140 hy28 ry28 eh28
      refine xi_iload_n (pc' := 12) (x := (-1)) kc_12_11 rfl rfl ?_
      refine xi_ireturn kc_12_12 mr_12 rfl ?_
      show xw J ov (d + 6) 46 (18, [(0, .ref 115), (1, .int x1), (2, .int x2)], [.int (-1)], hh28) _
      refine xi_ireturn kc_46_18 mr_46 rfl ?_
      have zcm1 : ((-1) : Int32).toInt = (-1) := by decide
      exact kk (-1) hh28 K29
    · refine xi_cmf (pc' := 10) kc_11_7 rfl (xc_gt_f (X := x2.toInt) (Y := 11) rfl (by decide) (by omega)) ?_
      refine xi_iconst (pc' := 11) (v := 1) kc_11_10 rfl rfl ?_
      refine xi_goto (pc' := 15) kc_11_11 rfl ?_
      refine xi_ireturn kc_11_15 mr_11 rfl ?_
      show xw J ov (d + 4) 24 (7, [(0, .int x2)], [.int 1], hh16) _
      refine xi_ireturn kc_24_7 mr_24 rfl ?_
      show xw J ov (d + 5) 31 (4, [(0, .ref 115), (1, .int x2)], [.int 1], hh16) _
      refine xi_iff (pc' := 7) kc_31_4 rfl rfl ?_
      refine xi_aload_n (pc' := 8) (x := 115) kc_31_7 rfl rfl ?_
      refine xi_getfield (pc' := 11) (v := .ref 125) kc_31_8 rfl rfl rfl eh15.1 rfl ?_
      refine xi_iload_n (pc' := 12) (x := x2) kc_31_11 rfl rfl ?_
      obtain ⟨y30, A30, hy30, ry30⟩ := xk_arr K17.1 xD_125
      obtain ⟨v31, ev31, bv31, dv31⟩ := xj_get hy30 ry30 (i := x2) (by omega) (by omega)
      refine xi_iaload (pc' := 13) (v := v31) kc_31_12 rfl A30 (by decide) rfl (xi_in (by omega) (by rw [hy30]; omega)) ev31 ?_
      by_cases c32 : v31.toInt < 0
      · refine xi_ift (pc' := 20) kc_31_13 rfl (xc_lt_t (X := v31.toInt) (Y := 0) rfl (by decide) (by omega)) ?_
        refine xi_iconst (pc' := 21) (v := 0) kc_31_20 rfl rfl ?_
        refine xi_ireturn kc_31_21 mr_31 rfl ?_
        show xw J ov (d + 6) 46 (10, [(0, .ref 115), (1, .int x1), (2, .int x2)], [.int 0], hh16) _
        refine xi_iff (pc' := 13) kc_46_10 rfl rfl ?_
        refine xi_aload_n (pc' := 14) (x := 115) kc_46_13 rfl rfl ?_
        refine xi_iconst (pc' := 15) (v := (-1)) kc_46_14 rfl rfl ?_
        refine xi_virtual (mj := 12) (as := [.int (-1)]) (st1 := []) (lv0 := [(0, .ref 115), (1, .int (-1))]) kc_46_15 rfl rfl rfl rfl rfl eh15.1 (Nat.le_of_ble_eq_true rfl) (hJ _ _ _ _ (by decide)) (xm_le ml_12 rfl) rfl ?_
        refine xi_aload_n (pc' := 1) (x := 115) kc_12_0 rfl rfl ?_
        refine xi_getfield (pc' := 4) (v := .ref 140) kc_12_1 rfl rfl rfl eh15.1 rfl ?_
        refine xi_iload_n (pc' := 5) (x := (-1)) kc_12_4 rfl rfl ?_
        refine xi_ineg (pc' := 6) (v := 1) kc_12_5 rfl rfl ?_
        refine xi_dup2 (pc' := 7) kc_12_6 rfl ⟨rfl, rfl⟩ ?_
        obtain ⟨y33, A33, hy33, ry33⟩ := xk_arr K17.1 xD_140
        obtain ⟨v34, ev34, bv34, dv34⟩ := xj_get hy33 ry33 (i := 1) (by decide) (by decide)
        refine xi_iaload (pc' := 8) (v := v34) kc_12_7 rfl A33 (by decide) rfl (xi_in (by decide) (by rw [hy33]; decide)) ev34 ?_
        refine xi_iconst (pc' := 9) (v := 1) kc_12_8 rfl rfl ?_
        obtain ⟨v35, ev35⟩ : ∃ q : Int32, (v34 : Int32) + 1 = q := ⟨_, rfl⟩
        have rv35 := xc_rng v35
        refine xi_iadd (pc' := 10) (v := v35) kc_12_9 rfl ev35 ?_
        obtain ⟨y36, s36, hy36, ry36⟩ := xj_set (v := v35) hy33 ry33 1 (by first | omega | decide) (by first | omega | decide)
        refine xi_iastore (pc' := 11) (x' := y36) kc_12_10 rfl A33 rfl (xi_in (by decide) (by rw [hy33]; decide)) s36 (fun hh36 eh36 => ?_)
        have K37 := xk_pa K17 (xk_wa rfl) xD_140 hy36 ry36 eh36
        refine xi_iload_n (pc' := 12) (x := (-1)) kc_12_11 rfl rfl ?_
        refine xi_ireturn kc_12_12 mr_12 rfl ?_
        show xw J ov (d + 6) 46 (18, [(0, .ref 115), (1, .int x1), (2, .int x2)], [.int (-1)], hh36) _
        refine xi_ireturn kc_46_18 mr_46 rfl ?_
        have zcm1 : ((-1) : Int32).toInt = (-1) := by decide
        exact kk (-1) hh36 K37
      · refine xi_iff (pc' := 16) kc_31_13 rfl (xc_lt_f (X := v31.toInt) (Y := 0) rfl (by decide) (by omega)) ?_
        refine xi_iconst (pc' := 17) (v := 1) kc_31_16 rfl rfl ?_
        refine xi_goto (pc' := 21) kc_31_17 rfl ?_
        refine xi_ireturn kc_31_21 mr_31 rfl ?_
        show xw J ov (d + 6) 46 (10, [(0, .ref 115), (1, .int x1), (2, .int x2)], [.int 1], hh16) _
        refine xi_ift (pc' := 19) kc_46_10 rfl rfl ?_
        refine xi_iload_n (pc' := 20) (x := x1) kc_46_19 rfl rfl ?_
        refine xi_iconst (pc' := 21) (v := 0) kc_46_20 rfl rfl ?_
        refine xi_aload_n (pc' := 22) (x := 115) kc_46_21 rfl rfl ?_
        refine xi_virtual (mj := 42) (as := []) (st1 := [.int 0, .int x1]) (lv0 := [(0, .ref 115)]) kc_46_22 rfl rfl rfl rfl rfl eh15.1 (Nat.le_of_ble_eq_true rfl) (hJ _ _ _ _ (by decide)) (xm_le ml_42 rfl) rfl ?_
        refine xi_iconst (pc' := 1) (v := 1) kc_42_0 rfl rfl ?_
        refine xi_aload_n (pc' := 2) (x := 115) kc_42_1 rfl rfl ?_
        refine xi_getfield (pc' := 5) (v := .int u5) kc_42_2 rfl rfl rfl eh15.1 rfl ?_
        refine xi_bipush (pc' := 7) (v := 6) kc_42_5 rfl rfl ?_
        by_cases c38 : 6 ≤ u5.toInt
        · refine xi_cmt (pc' := 17) kc_42_7 rfl (xc_ge_t (X := u5.toInt) (Y := 6) rfl (by decide) (by omega)) ?_
          refine xi_bipush (pc' := 19) (v := 6) kc_42_17 rfl rfl ?_
          refine xi_ishl (pc' := 20) (v := 64) kc_42_19 rfl rfl ?_
          refine xi_ireturn kc_42_20 mr_42 rfl ?_
          show xw J ov (d + 6) 46 (25, [(0, .ref 115), (1, .int x1), (2, .int x2)], [.int 64, .int 0, .int x1], hh16) _
          refine xi_iconst (pc' := 26) (v := 1) kc_46_25 rfl rfl ?_
          refine xi_isub (pc' := 27) (v := 63) kc_46_26 rfl rfl ?_
          refine xi_static (mj := 11) (as := [.int x1, .int 0, .int 63]) (st1 := []) (lv0 := [(0, .int x1), (1, .int 0), (2, .int 63)]) kc_46_27 rfl rfl (Nat.le_of_ble_eq_true rfl) rfl rfl (Nat.le_of_ble_eq_true rfl) (hJ _ _ _ _ (by decide)) (xm_le ml_11 rfl) rfl ?_
          refine xi_iload_n (pc' := 1) (x := x1) kc_11_0 rfl rfl ?_
          refine xi_iload_n (pc' := 2) (x := 0) kc_11_1 rfl rfl ?_
          by_cases c39 : x1.toInt < 0
          · refine xi_cmt (pc' := 14) kc_11_2 rfl (xc_lt_t (X := x1.toInt) (Y := 0) rfl (by decide) (by omega)) ?_
            refine xi_iconst (pc' := 15) (v := 0) kc_11_14 rfl rfl ?_
            refine xi_ireturn kc_11_15 mr_11 rfl ?_
            show xw J ov (d + 6) 46 (30, [(0, .ref 115), (1, .int x1), (2, .int x2)], [.int 0], hh16) _
            refine xi_iff (pc' := 33) kc_46_30 rfl rfl ?_
            refine xi_aload_n (pc' := 34) (x := 115) kc_46_33 rfl rfl ?_
            refine xi_bipush (pc' := 36) (v := (-2)) kc_46_34 rfl rfl ?_
            refine xi_virtual (mj := 12) (as := [.int (-2)]) (st1 := []) (lv0 := [(0, .ref 115), (1, .int (-2))]) kc_46_36 rfl rfl rfl rfl rfl eh15.1 (Nat.le_of_ble_eq_true rfl) (hJ _ _ _ _ (by decide)) (xm_le ml_12 rfl) rfl ?_
            refine xi_aload_n (pc' := 1) (x := 115) kc_12_0 rfl rfl ?_
            refine xi_getfield (pc' := 4) (v := .ref 140) kc_12_1 rfl rfl rfl eh15.1 rfl ?_
            refine xi_iload_n (pc' := 5) (x := (-2)) kc_12_4 rfl rfl ?_
            refine xi_ineg (pc' := 6) (v := 2) kc_12_5 rfl rfl ?_
            refine xi_dup2 (pc' := 7) kc_12_6 rfl ⟨rfl, rfl⟩ ?_
            obtain ⟨y40, A40, hy40, ry40⟩ := xk_arr K17.1 xD_140
            obtain ⟨v41, ev41, bv41, dv41⟩ := xj_get hy40 ry40 (i := 2) (by decide) (by decide)
            refine xi_iaload (pc' := 8) (v := v41) kc_12_7 rfl A40 (by decide) rfl (xi_in (by decide) (by rw [hy40]; decide)) ev41 ?_
            refine xi_iconst (pc' := 9) (v := 1) kc_12_8 rfl rfl ?_
            obtain ⟨v42, ev42⟩ : ∃ q : Int32, (v41 : Int32) + 1 = q := ⟨_, rfl⟩
            have rv42 := xc_rng v42
            refine xi_iadd (pc' := 10) (v := v42) kc_12_9 rfl ev42 ?_
            obtain ⟨y43, s43, hy43, ry43⟩ := xj_set (v := v42) hy40 ry40 2 (by first | omega | decide) (by first | omega | decide)
            refine xi_iastore (pc' := 11) (x' := y43) kc_12_10 rfl A40 rfl (xi_in (by decide) (by rw [hy40]; decide)) s43 (fun hh43 eh43 => ?_)
            have K44 := xk_pa K17 (xk_wa rfl) xD_140 hy43 ry43 eh43
            refine xi_iload_n (pc' := 12) (x := (-2)) kc_12_11 rfl rfl ?_
            refine xi_ireturn kc_12_12 mr_12 rfl ?_
            show xw J ov (d + 6) 46 (39, [(0, .ref 115), (1, .int x1), (2, .int x2)], [.int (-2)], hh43) _
            refine xi_ireturn kc_46_39 mr_46 rfl ?_
            have zcm2 : ((-2) : Int32).toInt = (-2) := by decide
            exact kk (-2) hh43 K44
          · refine xi_cmf (pc' := 5) kc_11_2 rfl (xc_lt_f (X := x1.toInt) (Y := 0) rfl (by decide) (by omega)) ?_
            refine xi_iload_n (pc' := 6) (x := x1) kc_11_5 rfl rfl ?_
            refine xi_iload_n (pc' := 7) (x := 63) kc_11_6 rfl rfl ?_
            by_cases c45 : 63 < x1.toInt
            · refine xi_cmt (pc' := 14) kc_11_7 rfl (xc_gt_t (X := x1.toInt) (Y := 63) rfl (by decide) (by omega)) ?_
              refine xi_iconst (pc' := 15) (v := 0) kc_11_14 rfl rfl ?_
              refine xi_ireturn kc_11_15 mr_11 rfl ?_
              show xw J ov (d + 6) 46 (30, [(0, .ref 115), (1, .int x1), (2, .int x2)], [.int 0], hh16) _
              refine xi_iff (pc' := 33) kc_46_30 rfl rfl ?_
              refine xi_aload_n (pc' := 34) (x := 115) kc_46_33 rfl rfl ?_
              refine xi_bipush (pc' := 36) (v := (-2)) kc_46_34 rfl rfl ?_
              refine xi_virtual (mj := 12) (as := [.int (-2)]) (st1 := []) (lv0 := [(0, .ref 115), (1, .int (-2))]) kc_46_36 rfl rfl rfl rfl rfl eh15.1 (Nat.le_of_ble_eq_true rfl) (hJ _ _ _ _ (by decide)) (xm_le ml_12 rfl) rfl ?_
              refine xi_aload_n (pc' := 1) (x := 115) kc_12_0 rfl rfl ?_
              refine xi_getfield (pc' := 4) (v := .ref 140) kc_12_1 rfl rfl rfl eh15.1 rfl ?_
              refine xi_iload_n (pc' := 5) (x := (-2)) kc_12_4 rfl rfl ?_
              refine xi_ineg (pc' := 6) (v := 2) kc_12_5 rfl rfl ?_
              refine xi_dup2 (pc' := 7) kc_12_6 rfl ⟨rfl, rfl⟩ ?_
              obtain ⟨y46, A46, hy46, ry46⟩ := xk_arr K17.1 xD_140
              obtain ⟨v47, ev47, bv47, dv47⟩ := xj_get hy46 ry46 (i := 2) (by decide) (by decide)
              refine xi_iaload (pc' := 8) (v := v47) kc_12_7 rfl A46 (by decide) rfl (xi_in (by decide) (by rw [hy46]; decide)) ev47 ?_
              refine xi_iconst (pc' := 9) (v := 1) kc_12_8 rfl rfl ?_
              obtain ⟨v48, ev48⟩ : ∃ q : Int32, (v47 : Int32) + 1 = q := ⟨_, rfl⟩
              have rv48 := xc_rng v48
              refine xi_iadd (pc' := 10) (v := v48) kc_12_9 rfl ev48 ?_
              obtain ⟨y49, s49, hy49, ry49⟩ := xj_set (v := v48) hy46 ry46 2 (by first | omega | decide) (by first | omega | decide)
              refine xi_iastore (pc' := 11) (x' := y49) kc_12_10 rfl A46 rfl (xi_in (by decide) (by rw [hy46]; decide)) s49 (fun hh49 eh49 => ?_)
              have K50 := xk_pa K17 (xk_wa rfl) xD_140 hy49 ry49 eh49
              refine xi_iload_n (pc' := 12) (x := (-2)) kc_12_11 rfl rfl ?_
              refine xi_ireturn kc_12_12 mr_12 rfl ?_
              show xw J ov (d + 6) 46 (39, [(0, .ref 115), (1, .int x1), (2, .int x2)], [.int (-2)], hh49) _
              refine xi_ireturn kc_46_39 mr_46 rfl ?_
              have zcm2 : ((-2) : Int32).toInt = (-2) := by decide
              exact kk (-2) hh49 K50
            · refine xi_cmf (pc' := 10) kc_11_7 rfl (xc_gt_f (X := x1.toInt) (Y := 63) rfl (by decide) (by omega)) ?_
              refine xi_iconst (pc' := 11) (v := 1) kc_11_10 rfl rfl ?_
              refine xi_goto (pc' := 15) kc_11_11 rfl ?_
              refine xi_ireturn kc_11_15 mr_11 rfl ?_
              show xw J ov (d + 6) 46 (30, [(0, .ref 115), (1, .int x1), (2, .int x2)], [.int 1], hh16) _
              refine xi_ift (pc' := 40) kc_46_30 rfl rfl ?_
              refine xi_aload_n (pc' := 41) (x := 115) kc_46_40 rfl rfl ?_
              refine xi_virtual (mj := 44) (as := []) (st1 := []) (lv0 := [(0, .ref 115)]) kc_46_41 rfl rfl rfl rfl rfl eh15.1 (Nat.le_of_ble_eq_true rfl) (hJ _ _ _ _ (by decide)) (xm_le ml_44 rfl) rfl ?_
              refine mt_44_0 hJ hov1 hov2 (d := d + 4)  K17.1 (fun hh52 K53 => ?_)
              have K54 := xk_tr K17 K53 rfl
              obtain ⟨u55, u56, u57, u58, u59, u60, u61, u62, u63, u64, u65, u66, u67, bu55, bu56, bu57, bu58, bu59, bu60, bu61, bu62, bu63, bu64, bu65, bu66, bu67, A68⟩ := xq_115 K54.1
              have e69 : u2 = u56 := xk_eqi (q := 1) K53 rfl eh15.1 A68 rfl rfl
              subst e69
              show xw J ov (d + 6) 46 (44, [(0, .ref 115), (1, .int x1), (2, .int x2)], [], hh52) _
              refine xi_aload_n (pc' := 45) (x := 115) kc_46_44 rfl rfl ?_
              refine xi_iload_n (pc' := 46) (x := x1) kc_46_45 rfl rfl ?_
              refine xi_virtual (mj := 45) (as := [.int x1]) (st1 := []) (lv0 := [(0, .ref 115), (1, .int x1)]) kc_46_46 rfl rfl rfl rfl rfl A68 (Nat.le_of_ble_eq_true rfl) (hJ _ _ _ _ (by decide)) (xm_le ml_45 rfl) rfl ?_
              refine mt_45_0 hJ hov1 hov2 (d := d) (x1 := x1) K54.1 (by first | omega | decide) (fun r70 hh71 K72 => ?_)
              have K73 := xk_tr K54 K72 rfl
              obtain ⟨u74, u75, u76, u77, u78, u79, u80, u81, u82, u83, u84, u85, u86, bu74, bu75, bu76, bu77, bu78, bu79, bu80, bu81, bu82, bu83, bu84, bu85, bu86, A87⟩ := xq_115 K73.1
              have e88 : u2 = u75 := xk_eqi (q := 1) K72 rfl A68 A87 rfl rfl
              subst e88
              show xw J ov (d + 6) 46 (49, [(0, .ref 115), (1, .int x1), (2, .int x2)], [.long r70], hh71) _
              refine xi_lstore_n (pc' := 50) (lv' := [(3, .long r70), (0, .ref 115), (1, .int x1), (2, .int x2)]) kc_46_49 rfl rfl (xm_lt ml_46 rfl) ?_
              refine xi_aload_n (pc' := 51) (x := 115) kc_46_50 rfl rfl ?_
              refine xi_getfield (pc' := 54) (v := .ref 142) kc_46_51 rfl rfl rfl A87 rfl ?_
              refine xi_iload_n (pc' := 55) (x := x2) kc_46_54 rfl rfl ?_
              obtain ⟨y89, A89, hy89, ry89⟩ := xk_arr K73.1 xD_142
              obtain ⟨v90, ev90, bv90, dv90⟩ := xj_get hy89 ry89 (i := x2) (by omega) (by omega)
              refine xi_iaload (pc' := 56) (v := v90) kc_46_55 rfl A89 (by decide) rfl (xi_in (by omega) (by rw [hy89]; omega)) ev90 ?_
              refine xi_ireturn kc_46_56 mr_46 rfl ?_
              exact kk v90 hh71 K73
        · refine xi_cmf (pc' := 10) kc_42_7 rfl (xc_ge_f (X := u5.toInt) (Y := 6) rfl (by decide) (by omega)) ?_
          refine xi_aload_n (pc' := 11) (x := 115) kc_42_10 rfl rfl ?_
          refine xi_getfield (pc' := 14) (v := .int u5) kc_42_11 rfl rfl rfl eh15.1 rfl ?_
          refine xi_goto (pc' := 19) kc_42_14 rfl ?_
          obtain ⟨v91, ev91⟩ : ∃ q : Int32, (1 : Int32) <<< (u5 &&& 31) = q := ⟨_, rfl⟩
          have rv91 := xc_rng v91
          have bv91 : 1 ≤ v91.toInt ∧ v91.toInt ≤ 64 := by rw [← ev91]; exact xj_shl6 (by omega) (by omega)
          refine xi_ishl (pc' := 20) (v := v91) kc_42_19 rfl ev91 ?_
          refine xi_ireturn kc_42_20 mr_42 rfl ?_
          show xw J ov (d + 6) 46 (25, [(0, .ref 115), (1, .int x1), (2, .int x2)], [.int v91, .int 0, .int x1], hh16) _
          refine xi_iconst (pc' := 26) (v := 1) kc_46_25 rfl rfl ?_
          obtain ⟨v92, ev92⟩ : ∃ q : Int32, v91 - 1 = q := ⟨_, rfl⟩
          have zv92 : v92.toInt = (v91.toInt + (-1)) := by rw [← ev92]; exact (xz_sub (X := v91.toInt) (Y := 1) rfl (by decide) (by omega) (by omega)).trans (by omega)
          refine xi_isub (pc' := 27) (v := v92) kc_46_26 rfl ev92 ?_
          refine xi_static (mj := 11) (as := [.int x1, .int 0, .int v92]) (st1 := []) (lv0 := [(0, .int x1), (1, .int 0), (2, .int v92)]) kc_46_27 rfl rfl (Nat.le_of_ble_eq_true rfl) rfl rfl (Nat.le_of_ble_eq_true rfl) (hJ _ _ _ _ (by decide)) (xm_le ml_11 rfl) rfl ?_
          refine xi_iload_n (pc' := 1) (x := x1) kc_11_0 rfl rfl ?_
          refine xi_iload_n (pc' := 2) (x := 0) kc_11_1 rfl rfl ?_
          by_cases c93 : x1.toInt < 0
          · refine xi_cmt (pc' := 14) kc_11_2 rfl (xc_lt_t (X := x1.toInt) (Y := 0) rfl (by decide) (by omega)) ?_
            refine xi_iconst (pc' := 15) (v := 0) kc_11_14 rfl rfl ?_
            refine xi_ireturn kc_11_15 mr_11 rfl ?_
            show xw J ov (d + 6) 46 (30, [(0, .ref 115), (1, .int x1), (2, .int x2)], [.int 0], hh16) _
            refine xi_iff (pc' := 33) kc_46_30 rfl rfl ?_
            refine xi_aload_n (pc' := 34) (x := 115) kc_46_33 rfl rfl ?_
            refine xi_bipush (pc' := 36) (v := (-2)) kc_46_34 rfl rfl ?_
            refine xi_virtual (mj := 12) (as := [.int (-2)]) (st1 := []) (lv0 := [(0, .ref 115), (1, .int (-2))]) kc_46_36 rfl rfl rfl rfl rfl eh15.1 (Nat.le_of_ble_eq_true rfl) (hJ _ _ _ _ (by decide)) (xm_le ml_12 rfl) rfl ?_
            refine xi_aload_n (pc' := 1) (x := 115) kc_12_0 rfl rfl ?_
            refine xi_getfield (pc' := 4) (v := .ref 140) kc_12_1 rfl rfl rfl eh15.1 rfl ?_
            refine xi_iload_n (pc' := 5) (x := (-2)) kc_12_4 rfl rfl ?_
            refine xi_ineg (pc' := 6) (v := 2) kc_12_5 rfl rfl ?_
            refine xi_dup2 (pc' := 7) kc_12_6 rfl ⟨rfl, rfl⟩ ?_
            obtain ⟨y94, A94, hy94, ry94⟩ := xk_arr K17.1 xD_140
            obtain ⟨v95, ev95, bv95, dv95⟩ := xj_get hy94 ry94 (i := 2) (by decide) (by decide)
            refine xi_iaload (pc' := 8) (v := v95) kc_12_7 rfl A94 (by decide) rfl (xi_in (by decide) (by rw [hy94]; decide)) ev95 ?_
            refine xi_iconst (pc' := 9) (v := 1) kc_12_8 rfl rfl ?_
            obtain ⟨v96, ev96⟩ : ∃ q : Int32, (v95 : Int32) + 1 = q := ⟨_, rfl⟩
            have rv96 := xc_rng v96
            refine xi_iadd (pc' := 10) (v := v96) kc_12_9 rfl ev96 ?_
            obtain ⟨y97, s97, hy97, ry97⟩ := xj_set (v := v96) hy94 ry94 2 (by first | omega | decide) (by first | omega | decide)
            refine xi_iastore (pc' := 11) (x' := y97) kc_12_10 rfl A94 rfl (xi_in (by decide) (by rw [hy94]; decide)) s97 (fun hh97 eh97 => ?_)
            have K98 := xk_pa K17 (xk_wa rfl) xD_140 hy97 ry97 eh97
            refine xi_iload_n (pc' := 12) (x := (-2)) kc_12_11 rfl rfl ?_
            refine xi_ireturn kc_12_12 mr_12 rfl ?_
            show xw J ov (d + 6) 46 (39, [(0, .ref 115), (1, .int x1), (2, .int x2)], [.int (-2)], hh97) _
            refine xi_ireturn kc_46_39 mr_46 rfl ?_
            have zcm2 : ((-2) : Int32).toInt = (-2) := by decide
            exact kk (-2) hh97 K98
          · refine xi_cmf (pc' := 5) kc_11_2 rfl (xc_lt_f (X := x1.toInt) (Y := 0) rfl (by decide) (by omega)) ?_
            refine xi_iload_n (pc' := 6) (x := x1) kc_11_5 rfl rfl ?_
            refine xi_iload_n (pc' := 7) (x := v92) kc_11_6 rfl rfl ?_
            by_cases c99 : (v91.toInt + (-1)) < x1.toInt
            · refine xi_cmt (pc' := 14) kc_11_7 rfl (xc_gt_t (X := x1.toInt) (Y := (v91.toInt + (-1))) rfl zv92 (by omega)) ?_
              refine xi_iconst (pc' := 15) (v := 0) kc_11_14 rfl rfl ?_
              refine xi_ireturn kc_11_15 mr_11 rfl ?_
              show xw J ov (d + 6) 46 (30, [(0, .ref 115), (1, .int x1), (2, .int x2)], [.int 0], hh16) _
              refine xi_iff (pc' := 33) kc_46_30 rfl rfl ?_
              refine xi_aload_n (pc' := 34) (x := 115) kc_46_33 rfl rfl ?_
              refine xi_bipush (pc' := 36) (v := (-2)) kc_46_34 rfl rfl ?_
              refine xi_virtual (mj := 12) (as := [.int (-2)]) (st1 := []) (lv0 := [(0, .ref 115), (1, .int (-2))]) kc_46_36 rfl rfl rfl rfl rfl eh15.1 (Nat.le_of_ble_eq_true rfl) (hJ _ _ _ _ (by decide)) (xm_le ml_12 rfl) rfl ?_
              refine xi_aload_n (pc' := 1) (x := 115) kc_12_0 rfl rfl ?_
              refine xi_getfield (pc' := 4) (v := .ref 140) kc_12_1 rfl rfl rfl eh15.1 rfl ?_
              refine xi_iload_n (pc' := 5) (x := (-2)) kc_12_4 rfl rfl ?_
              refine xi_ineg (pc' := 6) (v := 2) kc_12_5 rfl rfl ?_
              refine xi_dup2 (pc' := 7) kc_12_6 rfl ⟨rfl, rfl⟩ ?_
              obtain ⟨y100, A100, hy100, ry100⟩ := xk_arr K17.1 xD_140
              obtain ⟨v101, ev101, bv101, dv101⟩ := xj_get hy100 ry100 (i := 2) (by decide) (by decide)
              refine xi_iaload (pc' := 8) (v := v101) kc_12_7 rfl A100 (by decide) rfl (xi_in (by decide) (by rw [hy100]; decide)) ev101 ?_
              refine xi_iconst (pc' := 9) (v := 1) kc_12_8 rfl rfl ?_
              obtain ⟨v102, ev102⟩ : ∃ q : Int32, (v101 : Int32) + 1 = q := ⟨_, rfl⟩
              have rv102 := xc_rng v102
              refine xi_iadd (pc' := 10) (v := v102) kc_12_9 rfl ev102 ?_
              obtain ⟨y103, s103, hy103, ry103⟩ := xj_set (v := v102) hy100 ry100 2 (by first | omega | decide) (by first | omega | decide)
              refine xi_iastore (pc' := 11) (x' := y103) kc_12_10 rfl A100 rfl (xi_in (by decide) (by rw [hy100]; decide)) s103 (fun hh103 eh103 => ?_)
              have K104 := xk_pa K17 (xk_wa rfl) xD_140 hy103 ry103 eh103
              refine xi_iload_n (pc' := 12) (x := (-2)) kc_12_11 rfl rfl ?_
              refine xi_ireturn kc_12_12 mr_12 rfl ?_
              show xw J ov (d + 6) 46 (39, [(0, .ref 115), (1, .int x1), (2, .int x2)], [.int (-2)], hh103) _
              refine xi_ireturn kc_46_39 mr_46 rfl ?_
              have zcm2 : ((-2) : Int32).toInt = (-2) := by decide
              exact kk (-2) hh103 K104
            · refine xi_cmf (pc' := 10) kc_11_7 rfl (xc_gt_f (X := x1.toInt) (Y := (v91.toInt + (-1))) rfl zv92 (by omega)) ?_
              refine xi_iconst (pc' := 11) (v := 1) kc_11_10 rfl rfl ?_
              refine xi_goto (pc' := 15) kc_11_11 rfl ?_
              refine xi_ireturn kc_11_15 mr_11 rfl ?_
              show xw J ov (d + 6) 46 (30, [(0, .ref 115), (1, .int x1), (2, .int x2)], [.int 1], hh16) _
              refine xi_ift (pc' := 40) kc_46_30 rfl rfl ?_
              refine xi_aload_n (pc' := 41) (x := 115) kc_46_40 rfl rfl ?_
              refine xi_virtual (mj := 44) (as := []) (st1 := []) (lv0 := [(0, .ref 115)]) kc_46_41 rfl rfl rfl rfl rfl eh15.1 (Nat.le_of_ble_eq_true rfl) (hJ _ _ _ _ (by decide)) (xm_le ml_44 rfl) rfl ?_
              refine mt_44_0 hJ hov1 hov2 (d := d + 4)  K17.1 (fun hh106 K107 => ?_)
              have K108 := xk_tr K17 K107 rfl
              obtain ⟨u109, u110, u111, u112, u113, u114, u115, u116, u117, u118, u119, u120, u121, bu109, bu110, bu111, bu112, bu113, bu114, bu115, bu116, bu117, bu118, bu119, bu120, bu121, A122⟩ := xq_115 K108.1
              have e123 : u2 = u110 := xk_eqi (q := 1) K107 rfl eh15.1 A122 rfl rfl
              subst e123
              show xw J ov (d + 6) 46 (44, [(0, .ref 115), (1, .int x1), (2, .int x2)], [], hh106) _
              refine xi_aload_n (pc' := 45) (x := 115) kc_46_44 rfl rfl ?_
              refine xi_iload_n (pc' := 46) (x := x1) kc_46_45 rfl rfl ?_
              refine xi_virtual (mj := 45) (as := [.int x1]) (st1 := []) (lv0 := [(0, .ref 115), (1, .int x1)]) kc_46_46 rfl rfl rfl rfl rfl A122 (Nat.le_of_ble_eq_true rfl) (hJ _ _ _ _ (by decide)) (xm_le ml_45 rfl) rfl ?_
              refine mt_45_0 hJ hov1 hov2 (d := d) (x1 := x1) K108.1 (by first | omega | decide) (fun r124 hh125 K126 => ?_)
              have K127 := xk_tr K108 K126 rfl
              obtain ⟨u128, u129, u130, u131, u132, u133, u134, u135, u136, u137, u138, u139, u140, bu128, bu129, bu130, bu131, bu132, bu133, bu134, bu135, bu136, bu137, bu138, bu139, bu140, A141⟩ := xq_115 K127.1
              have e142 : u2 = u129 := xk_eqi (q := 1) K126 rfl A122 A141 rfl rfl
              subst e142
              show xw J ov (d + 6) 46 (49, [(0, .ref 115), (1, .int x1), (2, .int x2)], [.long r124], hh125) _
              refine xi_lstore_n (pc' := 50) (lv' := [(3, .long r124), (0, .ref 115), (1, .int x1), (2, .int x2)]) kc_46_49 rfl rfl (xm_lt ml_46 rfl) ?_
              refine xi_aload_n (pc' := 51) (x := 115) kc_46_50 rfl rfl ?_
              refine xi_getfield (pc' := 54) (v := .ref 142) kc_46_51 rfl rfl rfl A141 rfl ?_
              refine xi_iload_n (pc' := 55) (x := x2) kc_46_54 rfl rfl ?_
              obtain ⟨y143, A143, hy143, ry143⟩ := xk_arr K127.1 xD_142
              obtain ⟨v144, ev144, bv144, dv144⟩ := xj_get hy143 ry143 (i := x2) (by omega) (by omega)
              refine xi_iaload (pc' := 56) (v := v144) kc_46_55 rfl A143 (by decide) rfl (xi_in (by omega) (by rw [hy143]; omega)) ev144 ?_
              refine xi_ireturn kc_46_56 mr_46 rfl ?_
              exact kk v144 hh125 K127
