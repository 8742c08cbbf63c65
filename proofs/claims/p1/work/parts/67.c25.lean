set_option maxHeartbeats 8000000 in
theorem lc_25 {J : xe_J} {ov : List (List Int32)} (hJ : ∀ d mj as h, mj ≠ xe_loff → J d mj as h = none) {a0 a1 a2 a3 a4 a5 : Int32} (hov0 : ov[0]? = some [a0, a1, a2, a3, a4, a5]) (hov1 : ov[1]? = some [10, 0, 0, 0, 0, 0]) (hov2 : ov[2]? = some [99, 30, 50, 50, 1, 99999]) {h0 : xe_H} (F : xf_fr h0) (hn0 : h0.length ≤ 600002) (hz0 : xe_sz h0 ≤ 7302232) : xw J ov 100 196 (1159, [(4, .int 0), (3, .ref 167), (2, .ref 115), (1, .ref 0), (0, .ref 1000000)], [], h0) xf_Q := by
  have rr1 := xc_rng a1
  have rr2 := xc_rng a2
  have rr3 := xc_rng a3
  have rr4 := xc_rng a4
  have rr5 := xc_rng a5
  refine xi_aload_n (pc' := 1160) (x := 0) kc_196_1159 rfl rfl ?_
  refine xi_aload_n (pc' := 1161) (x := 1000000) kc_196_1160 rfl rfl ?_
  refine xi_iload (pc' := 1163) (x := 0) kc_196_1161 rfl rfl ?_
  refine xi_iconst (pc' := 1164) (v := 1) kc_196_1163 rfl rfl ?_
  refine xi_iadd (pc' := 1165) (v := 1) kc_196_1164 rfl rfl ?_
  refine xi_ialoadO (pc' := 1166) (v := a1) kc_196_1165 rfl (by decide) hov0 (xi_in (n := 6) (by decide) (by decide)) rfl ?_
  refine xi_aload_n (pc' := 1167) (x := 1000000) kc_196_1166 rfl rfl ?_
  refine xi_iload (pc' := 1169) (x := 0) kc_196_1167 rfl rfl ?_
  refine xi_iconst (pc' := 1170) (v := 2) kc_196_1169 rfl rfl ?_
  refine xi_iadd (pc' := 1171) (v := 2) kc_196_1170 rfl rfl ?_
  refine xi_ialoadO (pc' := 1172) (v := a2) kc_196_1171 rfl (by decide) hov0 (xi_in (n := 6) (by decide) (by decide)) rfl ?_
  refine xi_aload_n (pc' := 1173) (x := 1000000) kc_196_1172 rfl rfl ?_
  refine xi_iload (pc' := 1175) (x := 0) kc_196_1173 rfl rfl ?_
  refine xi_iconst (pc' := 1176) (v := 3) kc_196_1175 rfl rfl ?_
  refine xi_iadd (pc' := 1177) (v := 3) kc_196_1176 rfl rfl ?_
  refine xi_ialoadO (pc' := 1178) (v := a3) kc_196_1177 rfl (by decide) hov0 (xi_in (n := 6) (by decide) (by decide)) rfl ?_
  refine xi_aload_n (pc' := 1179) (x := 1000000) kc_196_1178 rfl rfl ?_
  refine xi_iload (pc' := 1181) (x := 0) kc_196_1179 rfl rfl ?_
  refine xi_iconst (pc' := 1182) (v := 4) kc_196_1181 rfl rfl ?_
  refine xi_iadd (pc' := 1183) (v := 4) kc_196_1182 rfl rfl ?_
  refine xi_ialoadO (pc' := 1184) (v := a4) kc_196_1183 rfl (by decide) hov0 (xi_in (n := 6) (by decide) (by decide)) rfl ?_
  refine xi_virtual (mj := 168) (as := [.int a1, .int a2, .int a3, .int a4]) (st1 := []) (lv0 := [(0, .ref 0), (1, .int a1), (2, .int a2), (3, .int a3), (4, .int a4)]) kc_196_1184 rfl rfl rfl rfl rfl (F 0 _ hl_0) (Nat.le_of_ble_eq_true rfl) (hJ _ _ _ _ (by decide)) (xm_le ml_168 rfl) rfl ?_
  refine xi_iload_n (pc' := 1) (x := a1) kc_168_0 rfl rfl ?_
  by_cases c1 : a1.toInt < 0
  · refine xi_ift (pc' := 29) kc_168_1 rfl (xc_lt_t (X := a1.toInt) (Y := 0) rfl (by decide) (by omega)) ?_
    refine xi_aload_n (pc' := 30) (x := 0) kc_168_29 rfl rfl ?_
    refine xi_iconst (pc' := 31) (v := (-1)) kc_168_30 rfl rfl ?_
    refine xi_virtual (mj := 91) (as := [.int (-1)]) (st1 := []) (lv0 := [(0, .ref 0), (1, .int (-1))]) kc_168_31 rfl rfl rfl rfl rfl (F 0 _ hl_0) (Nat.le_of_ble_eq_true rfl) (hJ _ _ _ _ (by decide)) (xm_le ml_91 rfl) rfl ?_
    refine xi_iload_n (pc' := 1) (x := (-1)) kc_91_0 rfl rfl ?_
    refine xi_ineg (pc' := 2) (v := 1) kc_91_1 rfl rfl ?_
    refine xi_istore_n (pc' := 3) (lv' := [(2, .int 1), (0, .ref 0), (1, .int (-1))]) kc_91_2 rfl rfl (xm_lt ml_91 rfl) ?_
    refine xi_iload_n (pc' := 4) (x := 1) kc_91_3 rfl rfl ?_
    refine xi_iff (pc' := 7) kc_91_4 rfl rfl ?_
    refine xi_iload_n (pc' := 8) (x := 1) kc_91_7 rfl rfl ?_
    refine xi_aload_n (pc' := 9) (x := 0) kc_91_8 rfl rfl ?_
    refine xi_getfield (pc' := 12) (v := .ref 94) kc_91_9 rfl rfl rfl (F 0 _ hl_0) rfl ?_
    refine xi_arraylength (pc' := 13) (n := 7) (v := 7) kc_91_12 rfl (xl_lenI (by decide) (by decide) (F 94 _ hl_94) (by simp only [List.length_replicate, List.length_cons, List.length_nil])) rfl ?_
    refine xi_cmf (pc' := 16) kc_91_13 rfl rfl ?_
    refine xi_aload_n (pc' := 17) (x := 0) kc_91_16 rfl rfl ?_
    refine xi_getfield (pc' := 20) (v := .ref 94) kc_91_17 rfl rfl rfl (F 0 _ hl_0) rfl ?_
    refine xi_iload_n (pc' := 21) (x := 1) kc_91_20 rfl rfl ?_
    refine xi_dup2 (pc' := 22) kc_91_21 rfl ⟨rfl, rfl⟩ ?_
    refine xi_iaload (pc' := 23) (v := 0) kc_91_22 rfl (F 94 _ hl_94) (by decide) rfl (xi_in (n := 7) (by decide) (by decide)) rfl ?_
    refine xi_iconst (pc' := 24) (v := 1) kc_91_23 rfl rfl ?_
    refine xi_iadd (pc' := 25) (v := 1) kc_91_24 rfl rfl ?_
    refine xi_iastore (pc' := 26) (x' := [0, 1, 0, 0, 0, 0, 0]) kc_91_25 rfl (F 94 _ hl_94) rfl (xi_in (n := 7) (by decide) (by decide)) rfl (fun hh1 eh1 => ?_)
    refine xi_iload_n (pc' := 27) (x := (-1)) kc_91_26 rfl rfl ?_
    refine xi_ireturn kc_91_27 mr_91 rfl ?_
    show xw J ov 99 168 (34, [(0, .ref 0), (1, .int a1), (2, .int a2), (3, .int a3), (4, .int a4)], [.int (-1)], hh1) _
    refine xi_ireturn kc_168_34 mr_168 rfl ?_
    show xw J ov 100 196 (1187, [(4, .int 0), (3, .ref 167), (2, .ref 115), (1, .ref 0), (0, .ref 1000000)], [.int (-1)], hh1) _
    refine xi_aload_n (pc' := 1188) (x := 115) kc_196_1187 rfl rfl ?_
    refine xi_aload_n (pc' := 1189) (x := 1000000) kc_196_1188 rfl rfl ?_
    refine xi_iload (pc' := 1191) (x := 0) kc_196_1189 rfl rfl ?_
    refine xi_iconst (pc' := 1192) (v := 1) kc_196_1191 rfl rfl ?_
    refine xi_iadd (pc' := 1193) (v := 1) kc_196_1192 rfl rfl ?_
    refine xi_ialoadO (pc' := 1194) (v := a1) kc_196_1193 rfl (by decide) hov0 (xi_in (n := 6) (by decide) (by decide)) rfl ?_
    refine xi_aload_n (pc' := 1195) (x := 1000000) kc_196_1194 rfl rfl ?_
    refine xi_iload (pc' := 1197) (x := 0) kc_196_1195 rfl rfl ?_
    refine xi_iconst (pc' := 1198) (v := 2) kc_196_1197 rfl rfl ?_
    refine xi_iadd (pc' := 1199) (v := 2) kc_196_1198 rfl rfl ?_
    refine xi_ialoadO (pc' := 1200) (v := a2) kc_196_1199 rfl (by decide) hov0 (xi_in (n := 6) (by decide) (by decide)) rfl ?_
    refine xi_aload_n (pc' := 1201) (x := 1000000) kc_196_1200 rfl rfl ?_
    refine xi_iload (pc' := 1203) (x := 0) kc_196_1201 rfl rfl ?_
    refine xi_iconst (pc' := 1204) (v := 3) kc_196_1203 rfl rfl ?_
    refine xi_iadd (pc' := 1205) (v := 3) kc_196_1204 rfl rfl ?_
    refine xi_ialoadO (pc' := 1206) (v := a3) kc_196_1205 rfl (by decide) hov0 (xi_in (n := 6) (by decide) (by decide)) rfl ?_
    refine xi_aload_n (pc' := 1207) (x := 1000000) kc_196_1206 rfl rfl ?_
    refine xi_iload (pc' := 1209) (x := 0) kc_196_1207 rfl rfl ?_
    refine xi_iconst (pc' := 1210) (v := 4) kc_196_1209 rfl rfl ?_
    refine xi_iadd (pc' := 1211) (v := 4) kc_196_1210 rfl rfl ?_
    refine xi_ialoadO (pc' := 1212) (v := a4) kc_196_1211 rfl (by decide) hov0 (xi_in (n := 6) (by decide) (by decide)) rfl ?_
    refine xi_virtual (mj := 65) (as := [.int a1, .int a2, .int a3, .int a4]) (st1 := [.int (-1)]) (lv0 := [(0, .ref 115), (1, .int a1), (2, .int a2), (3, .int a3), (4, .int a4)]) kc_196_1212 rfl rfl rfl rfl rfl ((eh1.2.1 115 (by decide)).trans (F 115 _ hl_115)) (Nat.le_of_ble_eq_true rfl) (hJ _ _ _ _ (by decide)) (xm_le ml_65 rfl) rfl ?_
    refine xi_aload_n (pc' := 1) (x := 115) kc_65_0 rfl rfl ?_
    refine xi_iconst (pc' := 2) (v := 0) kc_65_1 rfl rfl ?_
    refine xi_putfield (pc' := 5) (fs' := [.int 0, .int 0, .ref 116, .ref 117, .ref 118, .ref 119, .ref 120, .ref 121, .ref 122, .ref 123, .ref 124, .ref 125, .ref 126, .ref 127, .ref 128, .ref 129, .int 4, .ref 130, .int 0, .ref 131, .ref 132, .ref 133, .ref 134, .int 0, .ref 135, .ref 136, .ref 137, .ref 138, .ref 139, .ref 140, .ref 141, .ref 142, .int 0, .int 0, .int 0, .ref 143, .ref 144, .ref 145, .ref 146, .ref 147, .ref 148, .int 0, .ref 149, .ref 150, .ref 151, .int 0, .ref 152, .ref 153, .ref 154, .ref 155, .ref 156, .ref 157, .ref 158, .ref 159, .int 0, .ref 160, .int 0, .ref 161, .ref 162, .ref 163, .ref 164, .int 0, .ref 165, .ref 166]) kc_65_2 rfl rfl rfl ((eh1.2.1 115 (by decide)).trans (F 115 _ hl_115)) rfl rfl rfl (Nat.le_of_ble_eq_true rfl) rfl (fun hh2 eh2 => ?_)
    refine xi_iload_n (pc' := 6) (x := a1) kc_65_5 rfl rfl ?_
    refine xi_iconst (pc' := 7) (v := 0) kc_65_6 rfl rfl ?_
    refine xi_bipush (pc' := 9) (v := 23) kc_65_7 rfl rfl ?_
    refine xi_static (mj := 12) (as := [.int a1, .int 0, .int 23]) (st1 := []) (lv0 := [(0, .int a1), (1, .int 0), (2, .int 23)]) kc_65_9 rfl rfl (Nat.le_of_ble_eq_true rfl) rfl rfl (Nat.le_of_ble_eq_true rfl) (hJ _ _ _ _ (by decide)) (xm_le ml_12 rfl) rfl ?_
    refine xi_iload_n (pc' := 1) (x := a1) kc_12_0 rfl rfl ?_
    refine xi_iload_n (pc' := 2) (x := 0) kc_12_1 rfl rfl ?_
    refine xi_cmt (pc' := 14) kc_12_2 rfl (xc_lt_t (X := a1.toInt) (Y := 0) rfl (by decide) (by omega)) ?_
    refine xi_iconst (pc' := 15) (v := 0) kc_12_14 rfl rfl ?_
    refine xi_ireturn kc_12_15 mr_12 rfl ?_
    show xw J ov 99 65 (12, [(0, .ref 115), (1, .int a1), (2, .int a2), (3, .int a3), (4, .int a4)], [.int 0], hh2) _
    refine xi_ift (pc' := 33) kc_65_12 rfl rfl ?_
    refine xi_aload_n (pc' := 34) (x := 115) kc_65_33 rfl rfl ?_
    refine xi_iconst (pc' := 35) (v := (-1)) kc_65_34 rfl rfl ?_
    refine xi_virtual (mj := 13) (as := [.int (-1)]) (st1 := []) (lv0 := [(0, .ref 115), (1, .int (-1))]) kc_65_35 rfl rfl rfl rfl rfl eh2.1 (Nat.le_of_ble_eq_true rfl) (hJ _ _ _ _ (by decide)) (xm_le ml_13 rfl) rfl ?_
    refine xi_aload_n (pc' := 1) (x := 115) kc_13_0 rfl rfl ?_
    refine xi_getfield (pc' := 4) (v := .ref 140) kc_13_1 rfl rfl rfl eh2.1 rfl ?_
    refine xi_iload_n (pc' := 5) (x := (-1)) kc_13_4 rfl rfl ?_
    refine xi_ineg (pc' := 6) (v := 1) kc_13_5 rfl rfl ?_
    refine xi_dup2 (pc' := 7) kc_13_6 rfl ⟨rfl, rfl⟩ ?_
    refine xi_iaload (pc' := 8) (v := 0) kc_13_7 rfl ((eh2.2.1 140 (by decide)).trans ((eh1.2.1 140 (by decide)).trans (F 140 _ hl_140))) (by decide) rfl (xi_in (n := 7) (by decide) (by decide)) rfl ?_
    refine xi_iconst (pc' := 9) (v := 1) kc_13_8 rfl rfl ?_
    refine xi_iadd (pc' := 10) (v := 1) kc_13_9 rfl rfl ?_
    refine xi_iastore (pc' := 11) (x' := [0, 1, 0, 0, 0, 0, 0]) kc_13_10 rfl ((eh2.2.1 140 (by decide)).trans ((eh1.2.1 140 (by decide)).trans (F 140 _ hl_140))) rfl (xi_in (n := 7) (by decide) (by decide)) rfl (fun hh3 eh3 => ?_)
    refine xi_iload_n (pc' := 12) (x := (-1)) kc_13_11 rfl rfl ?_
    refine xi_ireturn kc_13_12 mr_13 rfl ?_
    show xw J ov 99 65 (38, [(0, .ref 115), (1, .int a1), (2, .int a2), (3, .int a3), (4, .int a4)], [.int (-1)], hh3) _
    refine xi_ireturn kc_65_38 mr_65 rfl ?_
    show xw J ov 100 196 (1215, [(4, .int 0), (3, .ref 167), (2, .ref 115), (1, .ref 0), (0, .ref 1000000)], [.int (-1), .int (-1)], hh3) _
    refine xi_cmt (pc' := 1528) kc_196_1215 rfl rfl ?_
    refine xi_iinc (pc' := 1531) (x := 0) (v := 6) (lv' := [(4, .int 6), (3, .ref 167), (2, .ref 115), (1, .ref 0), (0, .ref 1000000)]) kc_196_1528 rfl rfl rfl rfl (xm_lt ml_196 rfl) ?_
    refine xi_goto (pc' := 23) kc_196_1531 rfl ?_
    refine xi_iload (pc' := 25) (x := 6) kc_196_23 rfl rfl ?_
    refine xi_aload_n (pc' := 26) (x := 1000000) kc_196_25 rfl rfl ?_
    refine xi_arraylength (pc' := 27) (n := 6) (v := 6) kc_196_26 rfl (xl_lenO (by decide) hov0 rfl) rfl ?_
    refine xi_bipush (pc' := 29) (v := 6) kc_196_27 rfl rfl ?_
    refine xi_isub (pc' := 30) (v := 0) kc_196_29 rfl rfl ?_
    refine xi_cmt (pc' := 1534) kc_196_30 rfl rfl ?_
    refine xi_iconst (pc' := 1535) (v := 1) kc_196_1534 rfl rfl ?_
    refine xi_ireturn kc_196_1535 mr_196 rfl ?_
    refine ⟨rfl, ?_, ?_⟩
    · rw [eh3.2.2.1, eh2.2.2.1, eh1.2.2.1]; exact hn0
    · rw [eh3.2.2.2, eh2.2.2.2, eh1.2.2.2]; exact hz0
  · refine xi_iff (pc' := 4) kc_168_1 rfl (xc_lt_f (X := a1.toInt) (Y := 0) rfl (by decide) (by omega)) ?_
    refine xi_iload_n (pc' := 5) (x := a1) kc_168_4 rfl rfl ?_
    refine xi_bipush (pc' := 7) (v := 24) kc_168_5 rfl rfl ?_
    by_cases c2 : 24 ≤ a1.toInt
    · refine xi_cmt (pc' := 29) kc_168_7 rfl (xc_ge_t (X := a1.toInt) (Y := 24) rfl (by decide) (by omega)) ?_
      refine xi_aload_n (pc' := 30) (x := 0) kc_168_29 rfl rfl ?_
      refine xi_iconst (pc' := 31) (v := (-1)) kc_168_30 rfl rfl ?_
      refine xi_virtual (mj := 91) (as := [.int (-1)]) (st1 := []) (lv0 := [(0, .ref 0), (1, .int (-1))]) kc_168_31 rfl rfl rfl rfl rfl (F 0 _ hl_0) (Nat.le_of_ble_eq_true rfl) (hJ _ _ _ _ (by decide)) (xm_le ml_91 rfl) rfl ?_
      refine xi_iload_n (pc' := 1) (x := (-1)) kc_91_0 rfl rfl ?_
      refine xi_ineg (pc' := 2) (v := 1) kc_91_1 rfl rfl ?_
      refine xi_istore_n (pc' := 3) (lv' := [(2, .int 1), (0, .ref 0), (1, .int (-1))]) kc_91_2 rfl rfl (xm_lt ml_91 rfl) ?_
      refine xi_iload_n (pc' := 4) (x := 1) kc_91_3 rfl rfl ?_
      refine xi_iff (pc' := 7) kc_91_4 rfl rfl ?_
      refine xi_iload_n (pc' := 8) (x := 1) kc_91_7 rfl rfl ?_
      refine xi_aload_n (pc' := 9) (x := 0) kc_91_8 rfl rfl ?_
      refine xi_getfield (pc' := 12) (v := .ref 94) kc_91_9 rfl rfl rfl (F 0 _ hl_0) rfl ?_
      refine xi_arraylength (pc' := 13) (n := 7) (v := 7) kc_91_12 rfl (xl_lenI (by decide) (by decide) (F 94 _ hl_94) (by simp only [List.length_replicate, List.length_cons, List.length_nil])) rfl ?_
      refine xi_cmf (pc' := 16) kc_91_13 rfl rfl ?_
      refine xi_aload_n (pc' := 17) (x := 0) kc_91_16 rfl rfl ?_
      refine xi_getfield (pc' := 20) (v := .ref 94) kc_91_17 rfl rfl rfl (F 0 _ hl_0) rfl ?_
      refine xi_iload_n (pc' := 21) (x := 1) kc_91_20 rfl rfl ?_
      refine xi_dup2 (pc' := 22) kc_91_21 rfl ⟨rfl, rfl⟩ ?_
      refine xi_iaload (pc' := 23) (v := 0) kc_91_22 rfl (F 94 _ hl_94) (by decide) rfl (xi_in (n := 7) (by decide) (by decide)) rfl ?_
      refine xi_iconst (pc' := 24) (v := 1) kc_91_23 rfl rfl ?_
      refine xi_iadd (pc' := 25) (v := 1) kc_91_24 rfl rfl ?_
      refine xi_iastore (pc' := 26) (x' := [0, 1, 0, 0, 0, 0, 0]) kc_91_25 rfl (F 94 _ hl_94) rfl (xi_in (n := 7) (by decide) (by decide)) rfl (fun hh1 eh1 => ?_)
      refine xi_iload_n (pc' := 27) (x := (-1)) kc_91_26 rfl rfl ?_
      refine xi_ireturn kc_91_27 mr_91 rfl ?_
      show xw J ov 99 168 (34, [(0, .ref 0), (1, .int a1), (2, .int a2), (3, .int a3), (4, .int a4)], [.int (-1)], hh1) _
      refine xi_ireturn kc_168_34 mr_168 rfl ?_
      show xw J ov 100 196 (1187, [(4, .int 0), (3, .ref 167), (2, .ref 115), (1, .ref 0), (0, .ref 1000000)], [.int (-1)], hh1) _
      refine xi_aload_n (pc' := 1188) (x := 115) kc_196_1187 rfl rfl ?_
      refine xi_aload_n (pc' := 1189) (x := 1000000) kc_196_1188 rfl rfl ?_
      refine xi_iload (pc' := 1191) (x := 0) kc_196_1189 rfl rfl ?_
      refine xi_iconst (pc' := 1192) (v := 1) kc_196_1191 rfl rfl ?_
      refine xi_iadd (pc' := 1193) (v := 1) kc_196_1192 rfl rfl ?_
      refine xi_ialoadO (pc' := 1194) (v := a1) kc_196_1193 rfl (by decide) hov0 (xi_in (n := 6) (by decide) (by decide)) rfl ?_
      refine xi_aload_n (pc' := 1195) (x := 1000000) kc_196_1194 rfl rfl ?_
      refine xi_iload (pc' := 1197) (x := 0) kc_196_1195 rfl rfl ?_
      refine xi_iconst (pc' := 1198) (v := 2) kc_196_1197 rfl rfl ?_
      refine xi_iadd (pc' := 1199) (v := 2) kc_196_1198 rfl rfl ?_
      refine xi_ialoadO (pc' := 1200) (v := a2) kc_196_1199 rfl (by decide) hov0 (xi_in (n := 6) (by decide) (by decide)) rfl ?_
      refine xi_aload_n (pc' := 1201) (x := 1000000) kc_196_1200 rfl rfl ?_
      refine xi_iload (pc' := 1203) (x := 0) kc_196_1201 rfl rfl ?_
      refine xi_iconst (pc' := 1204) (v := 3) kc_196_1203 rfl rfl ?_
      refine xi_iadd (pc' := 1205) (v := 3) kc_196_1204 rfl rfl ?_
      refine xi_ialoadO (pc' := 1206) (v := a3) kc_196_1205 rfl (by decide) hov0 (xi_in (n := 6) (by decide) (by decide)) rfl ?_
      refine xi_aload_n (pc' := 1207) (x := 1000000) kc_196_1206 rfl rfl ?_
      refine xi_iload (pc' := 1209) (x := 0) kc_196_1207 rfl rfl ?_
      refine xi_iconst (pc' := 1210) (v := 4) kc_196_1209 rfl rfl ?_
      refine xi_iadd (pc' := 1211) (v := 4) kc_196_1210 rfl rfl ?_
      refine xi_ialoadO (pc' := 1212) (v := a4) kc_196_1211 rfl (by decide) hov0 (xi_in (n := 6) (by decide) (by decide)) rfl ?_
      refine xi_virtual (mj := 65) (as := [.int a1, .int a2, .int a3, .int a4]) (st1 := [.int (-1)]) (lv0 := [(0, .ref 115), (1, .int a1), (2, .int a2), (3, .int a3), (4, .int a4)]) kc_196_1212 rfl rfl rfl rfl rfl ((eh1.2.1 115 (by decide)).trans (F 115 _ hl_115)) (Nat.le_of_ble_eq_true rfl) (hJ _ _ _ _ (by decide)) (xm_le ml_65 rfl) rfl ?_
      refine xi_aload_n (pc' := 1) (x := 115) kc_65_0 rfl rfl ?_
      refine xi_iconst (pc' := 2) (v := 0) kc_65_1 rfl rfl ?_
      refine xi_putfield (pc' := 5) (fs' := [.int 0, .int 0, .ref 116, .ref 117, .ref 118, .ref 119, .ref 120, .ref 121, .ref 122, .ref 123, .ref 124, .ref 125, .ref 126, .ref 127, .ref 128, .ref 129, .int 4, .ref 130, .int 0, .ref 131, .ref 132, .ref 133, .ref 134, .int 0, .ref 135, .ref 136, .ref 137, .ref 138, .ref 139, .ref 140, .ref 141, .ref 142, .int 0, .int 0, .int 0, .ref 143, .ref 144, .ref 145, .ref 146, .ref 147, .ref 148, .int 0, .ref 149, .ref 150, .ref 151, .int 0, .ref 152, .ref 153, .ref 154, .ref 155, .ref 156, .ref 157, .ref 158, .ref 159, .int 0, .ref 160, .int 0, .ref 161, .ref 162, .ref 163, .ref 164, .int 0, .ref 165, .ref 166]) kc_65_2 rfl rfl rfl ((eh1.2.1 115 (by decide)).trans (F 115 _ hl_115)) rfl rfl rfl (Nat.le_of_ble_eq_true rfl) rfl (fun hh2 eh2 => ?_)
      refine xi_iload_n (pc' := 6) (x := a1) kc_65_5 rfl rfl ?_
      refine xi_iconst (pc' := 7) (v := 0) kc_65_6 rfl rfl ?_
      refine xi_bipush (pc' := 9) (v := 23) kc_65_7 rfl rfl ?_
      refine xi_static (mj := 12) (as := [.int a1, .int 0, .int 23]) (st1 := []) (lv0 := [(0, .int a1), (1, .int 0), (2, .int 23)]) kc_65_9 rfl rfl (Nat.le_of_ble_eq_true rfl) rfl rfl (Nat.le_of_ble_eq_true rfl) (hJ _ _ _ _ (by decide)) (xm_le ml_12 rfl) rfl ?_
      refine xi_iload_n (pc' := 1) (x := a1) kc_12_0 rfl rfl ?_
      refine xi_iload_n (pc' := 2) (x := 0) kc_12_1 rfl rfl ?_
      refine xi_cmf (pc' := 5) kc_12_2 rfl (xc_lt_f (X := a1.toInt) (Y := 0) rfl (by decide) (by omega)) ?_
      refine xi_iload_n (pc' := 6) (x := a1) kc_12_5 rfl rfl ?_
      refine xi_iload_n (pc' := 7) (x := 23) kc_12_6 rfl rfl ?_
      refine xi_cmt (pc' := 14) kc_12_7 rfl (xc_gt_t (X := a1.toInt) (Y := 23) rfl (by decide) (by omega)) ?_
      refine xi_iconst (pc' := 15) (v := 0) kc_12_14 rfl rfl ?_
      refine xi_ireturn kc_12_15 mr_12 rfl ?_
      show xw J ov 99 65 (12, [(0, .ref 115), (1, .int a1), (2, .int a2), (3, .int a3), (4, .int a4)], [.int 0], hh2) _
      refine xi_ift (pc' := 33) kc_65_12 rfl rfl ?_
      refine xi_aload_n (pc' := 34) (x := 115) kc_65_33 rfl rfl ?_
      refine xi_iconst (pc' := 35) (v := (-1)) kc_65_34 rfl rfl ?_
      refine xi_virtual (mj := 13) (as := [.int (-1)]) (st1 := []) (lv0 := [(0, .ref 115), (1, .int (-1))]) kc_65_35 rfl rfl rfl rfl rfl eh2.1 (Nat.le_of_ble_eq_true rfl) (hJ _ _ _ _ (by decide)) (xm_le ml_13 rfl) rfl ?_
      refine xi_aload_n (pc' := 1) (x := 115) kc_13_0 rfl rfl ?_
      refine xi_getfield (pc' := 4) (v := .ref 140) kc_13_1 rfl rfl rfl eh2.1 rfl ?_
      refine xi_iload_n (pc' := 5) (x := (-1)) kc_13_4 rfl rfl ?_
      refine xi_ineg (pc' := 6) (v := 1) kc_13_5 rfl rfl ?_
      refine xi_dup2 (pc' := 7) kc_13_6 rfl ⟨rfl, rfl⟩ ?_
      refine xi_iaload (pc' := 8) (v := 0) kc_13_7 rfl ((eh2.2.1 140 (by decide)).trans ((eh1.2.1 140 (by decide)).trans (F 140 _ hl_140))) (by decide) rfl (xi_in (n := 7) (by decide) (by decide)) rfl ?_
      refine xi_iconst (pc' := 9) (v := 1) kc_13_8 rfl rfl ?_
      refine xi_iadd (pc' := 10) (v := 1) kc_13_9 rfl rfl ?_
      refine xi_iastore (pc' := 11) (x' := [0, 1, 0, 0, 0, 0, 0]) kc_13_10 rfl ((eh2.2.1 140 (by decide)).trans ((eh1.2.1 140 (by decide)).trans (F 140 _ hl_140))) rfl (xi_in (n := 7) (by decide) (by decide)) rfl (fun hh3 eh3 => ?_)
      refine xi_iload_n (pc' := 12) (x := (-1)) kc_13_11 rfl rfl ?_
      refine xi_ireturn kc_13_12 mr_13 rfl ?_
      show xw J ov 99 65 (38, [(0, .ref 115), (1, .int a1), (2, .int a2), (3, .int a3), (4, .int a4)], [.int (-1)], hh3) _
      refine xi_ireturn kc_65_38 mr_65 rfl ?_
      show xw J ov 100 196 (1215, [(4, .int 0), (3, .ref 167), (2, .ref 115), (1, .ref 0), (0, .ref 1000000)], [.int (-1), .int (-1)], hh3) _
      refine xi_cmt (pc' := 1528) kc_196_1215 rfl rfl ?_
      refine xi_iinc (pc' := 1531) (x := 0) (v := 6) (lv' := [(4, .int 6), (3, .ref 167), (2, .ref 115), (1, .ref 0), (0, .ref 1000000)]) kc_196_1528 rfl rfl rfl rfl (xm_lt ml_196 rfl) ?_
      refine xi_goto (pc' := 23) kc_196_1531 rfl ?_
      refine xi_iload (pc' := 25) (x := 6) kc_196_23 rfl rfl ?_
      refine xi_aload_n (pc' := 26) (x := 1000000) kc_196_25 rfl rfl ?_
      refine xi_arraylength (pc' := 27) (n := 6) (v := 6) kc_196_26 rfl (xl_lenO (by decide) hov0 rfl) rfl ?_
      refine xi_bipush (pc' := 29) (v := 6) kc_196_27 rfl rfl ?_
      refine xi_isub (pc' := 30) (v := 0) kc_196_29 rfl rfl ?_
      refine xi_cmt (pc' := 1534) kc_196_30 rfl rfl ?_
      refine xi_iconst (pc' := 1535) (v := 1) kc_196_1534 rfl rfl ?_
      refine xi_ireturn kc_196_1535 mr_196 rfl ?_
      refine ⟨rfl, ?_, ?_⟩
      · rw [eh3.2.2.1, eh2.2.2.1, eh1.2.2.1]; exact hn0
      · rw [eh3.2.2.2, eh2.2.2.2, eh1.2.2.2]; exact hz0
    · refine xi_cmf (pc' := 10) kc_168_7 rfl (xc_ge_f (X := a1.toInt) (Y := 24) rfl (by decide) (by omega)) ?_
      refine xi_iload_n (pc' := 11) (x := a2) kc_168_10 rfl rfl ?_
      by_cases c3 : a2.toInt < 0
      · refine xi_ift (pc' := 29) kc_168_11 rfl (xc_lt_t (X := a2.toInt) (Y := 0) rfl (by decide) (by omega)) ?_
        refine xi_aload_n (pc' := 30) (x := 0) kc_168_29 rfl rfl ?_
        refine xi_iconst (pc' := 31) (v := (-1)) kc_168_30 rfl rfl ?_
        refine xi_virtual (mj := 91) (as := [.int (-1)]) (st1 := []) (lv0 := [(0, .ref 0), (1, .int (-1))]) kc_168_31 rfl rfl rfl rfl rfl (F 0 _ hl_0) (Nat.le_of_ble_eq_true rfl) (hJ _ _ _ _ (by decide)) (xm_le ml_91 rfl) rfl ?_
        refine xi_iload_n (pc' := 1) (x := (-1)) kc_91_0 rfl rfl ?_
        refine xi_ineg (pc' := 2) (v := 1) kc_91_1 rfl rfl ?_
        refine xi_istore_n (pc' := 3) (lv' := [(2, .int 1), (0, .ref 0), (1, .int (-1))]) kc_91_2 rfl rfl (xm_lt ml_91 rfl) ?_
        refine xi_iload_n (pc' := 4) (x := 1) kc_91_3 rfl rfl ?_
        refine xi_iff (pc' := 7) kc_91_4 rfl rfl ?_
        refine xi_iload_n (pc' := 8) (x := 1) kc_91_7 rfl rfl ?_
        refine xi_aload_n (pc' := 9) (x := 0) kc_91_8 rfl rfl ?_
        refine xi_getfield (pc' := 12) (v := .ref 94) kc_91_9 rfl rfl rfl (F 0 _ hl_0) rfl ?_
        refine xi_arraylength (pc' := 13) (n := 7) (v := 7) kc_91_12 rfl (xl_lenI (by decide) (by decide) (F 94 _ hl_94) (by simp only [List.length_replicate, List.length_cons, List.length_nil])) rfl ?_
        refine xi_cmf (pc' := 16) kc_91_13 rfl rfl ?_
        refine xi_aload_n (pc' := 17) (x := 0) kc_91_16 rfl rfl ?_
        refine xi_getfield (pc' := 20) (v := .ref 94) kc_91_17 rfl rfl rfl (F 0 _ hl_0) rfl ?_
        refine xi_iload_n (pc' := 21) (x := 1) kc_91_20 rfl rfl ?_
        refine xi_dup2 (pc' := 22) kc_91_21 rfl ⟨rfl, rfl⟩ ?_
        refine xi_iaload (pc' := 23) (v := 0) kc_91_22 rfl (F 94 _ hl_94) (by decide) rfl (xi_in (n := 7) (by decide) (by decide)) rfl ?_
        refine xi_iconst (pc' := 24) (v := 1) kc_91_23 rfl rfl ?_
        refine xi_iadd (pc' := 25) (v := 1) kc_91_24 rfl rfl ?_
        refine xi_iastore (pc' := 26) (x' := [0, 1, 0, 0, 0, 0, 0]) kc_91_25 rfl (F 94 _ hl_94) rfl (xi_in (n := 7) (by decide) (by decide)) rfl (fun hh1 eh1 => ?_)
        refine xi_iload_n (pc' := 27) (x := (-1)) kc_91_26 rfl rfl ?_
        refine xi_ireturn kc_91_27 mr_91 rfl ?_
        show xw J ov 99 168 (34, [(0, .ref 0), (1, .int a1), (2, .int a2), (3, .int a3), (4, .int a4)], [.int (-1)], hh1) _
        refine xi_ireturn kc_168_34 mr_168 rfl ?_
        show xw J ov 100 196 (1187, [(4, .int 0), (3, .ref 167), (2, .ref 115), (1, .ref 0), (0, .ref 1000000)], [.int (-1)], hh1) _
        refine xi_aload_n (pc' := 1188) (x := 115) kc_196_1187 rfl rfl ?_
        refine xi_aload_n (pc' := 1189) (x := 1000000) kc_196_1188 rfl rfl ?_
        refine xi_iload (pc' := 1191) (x := 0) kc_196_1189 rfl rfl ?_
        refine xi_iconst (pc' := 1192) (v := 1) kc_196_1191 rfl rfl ?_
        refine xi_iadd (pc' := 1193) (v := 1) kc_196_1192 rfl rfl ?_
        refine xi_ialoadO (pc' := 1194) (v := a1) kc_196_1193 rfl (by decide) hov0 (xi_in (n := 6) (by decide) (by decide)) rfl ?_
        refine xi_aload_n (pc' := 1195) (x := 1000000) kc_196_1194 rfl rfl ?_
        refine xi_iload (pc' := 1197) (x := 0) kc_196_1195 rfl rfl ?_
        refine xi_iconst (pc' := 1198) (v := 2) kc_196_1197 rfl rfl ?_
        refine xi_iadd (pc' := 1199) (v := 2) kc_196_1198 rfl rfl ?_
        refine xi_ialoadO (pc' := 1200) (v := a2) kc_196_1199 rfl (by decide) hov0 (xi_in (n := 6) (by decide) (by decide)) rfl ?_
        refine xi_aload_n (pc' := 1201) (x := 1000000) kc_196_1200 rfl rfl ?_
        refine xi_iload (pc' := 1203) (x := 0) kc_196_1201 rfl rfl ?_
        refine xi_iconst (pc' := 1204) (v := 3) kc_196_1203 rfl rfl ?_
        refine xi_iadd (pc' := 1205) (v := 3) kc_196_1204 rfl rfl ?_
        refine xi_ialoadO (pc' := 1206) (v := a3) kc_196_1205 rfl (by decide) hov0 (xi_in (n := 6) (by decide) (by decide)) rfl ?_
        refine xi_aload_n (pc' := 1207) (x := 1000000) kc_196_1206 rfl rfl ?_
        refine xi_iload (pc' := 1209) (x := 0) kc_196_1207 rfl rfl ?_
        refine xi_iconst (pc' := 1210) (v := 4) kc_196_1209 rfl rfl ?_
        refine xi_iadd (pc' := 1211) (v := 4) kc_196_1210 rfl rfl ?_
        refine xi_ialoadO (pc' := 1212) (v := a4) kc_196_1211 rfl (by decide) hov0 (xi_in (n := 6) (by decide) (by decide)) rfl ?_
        refine xi_virtual (mj := 65) (as := [.int a1, .int a2, .int a3, .int a4]) (st1 := [.int (-1)]) (lv0 := [(0, .ref 115), (1, .int a1), (2, .int a2), (3, .int a3), (4, .int a4)]) kc_196_1212 rfl rfl rfl rfl rfl ((eh1.2.1 115 (by decide)).trans (F 115 _ hl_115)) (Nat.le_of_ble_eq_true rfl) (hJ _ _ _ _ (by decide)) (xm_le ml_65 rfl) rfl ?_
        refine xi_aload_n (pc' := 1) (x := 115) kc_65_0 rfl rfl ?_
        refine xi_iconst (pc' := 2) (v := 0) kc_65_1 rfl rfl ?_
        refine xi_putfield (pc' := 5) (fs' := [.int 0, .int 0, .ref 116, .ref 117, .ref 118, .ref 119, .ref 120, .ref 121, .ref 122, .ref 123, .ref 124, .ref 125, .ref 126, .ref 127, .ref 128, .ref 129, .int 4, .ref 130, .int 0, .ref 131, .ref 132, .ref 133, .ref 134, .int 0, .ref 135, .ref 136, .ref 137, .ref 138, .ref 139, .ref 140, .ref 141, .ref 142, .int 0, .int 0, .int 0, .ref 143, .ref 144, .ref 145, .ref 146, .ref 147, .ref 148, .int 0, .ref 149, .ref 150, .ref 151, .int 0, .ref 152, .ref 153, .ref 154, .ref 155, .ref 156, .ref 157, .ref 158, .ref 159, .int 0, .ref 160, .int 0, .ref 161, .ref 162, .ref 163, .ref 164, .int 0, .ref 165, .ref 166]) kc_65_2 rfl rfl rfl ((eh1.2.1 115 (by decide)).trans (F 115 _ hl_115)) rfl rfl rfl (Nat.le_of_ble_eq_true rfl) rfl (fun hh2 eh2 => ?_)
        refine xi_iload_n (pc' := 6) (x := a1) kc_65_5 rfl rfl ?_
        refine xi_iconst (pc' := 7) (v := 0) kc_65_6 rfl rfl ?_
        refine xi_bipush (pc' := 9) (v := 23) kc_65_7 rfl rfl ?_
        refine xi_static (mj := 12) (as := [.int a1, .int 0, .int 23]) (st1 := []) (lv0 := [(0, .int a1), (1, .int 0), (2, .int 23)]) kc_65_9 rfl rfl (Nat.le_of_ble_eq_true rfl) rfl rfl (Nat.le_of_ble_eq_true rfl) (hJ _ _ _ _ (by decide)) (xm_le ml_12 rfl) rfl ?_
        refine xi_iload_n (pc' := 1) (x := a1) kc_12_0 rfl rfl ?_
        refine xi_iload_n (pc' := 2) (x := 0) kc_12_1 rfl rfl ?_
        refine xi_cmf (pc' := 5) kc_12_2 rfl (xc_lt_f (X := a1.toInt) (Y := 0) rfl (by decide) (by omega)) ?_
        refine xi_iload_n (pc' := 6) (x := a1) kc_12_5 rfl rfl ?_
        refine xi_iload_n (pc' := 7) (x := 23) kc_12_6 rfl rfl ?_
        refine xi_cmf (pc' := 10) kc_12_7 rfl (xc_gt_f (X := a1.toInt) (Y := 23) rfl (by decide) (by omega)) ?_
        refine xi_iconst (pc' := 11) (v := 1) kc_12_10 rfl rfl ?_
        refine xi_goto (pc' := 15) kc_12_11 rfl ?_
        refine xi_ireturn kc_12_15 mr_12 rfl ?_
        show xw J ov 99 65 (12, [(0, .ref 115), (1, .int a1), (2, .int a2), (3, .int a3), (4, .int a4)], [.int 1], hh2) _
        refine xi_iff (pc' := 15) kc_65_12 rfl rfl ?_
        refine xi_iload_n (pc' := 16) (x := a2) kc_65_15 rfl rfl ?_
        refine xi_iconst (pc' := 17) (v := 0) kc_65_16 rfl rfl ?_
        refine xi_iconst (pc' := 18) (v := 3) kc_65_17 rfl rfl ?_
        refine xi_static (mj := 12) (as := [.int a2, .int 0, .int 3]) (st1 := []) (lv0 := [(0, .int a2), (1, .int 0), (2, .int 3)]) kc_65_18 rfl rfl (Nat.le_of_ble_eq_true rfl) rfl rfl (Nat.le_of_ble_eq_true rfl) (hJ _ _ _ _ (by decide)) (xm_le ml_12 rfl) rfl ?_
        refine xi_iload_n (pc' := 1) (x := a2) kc_12_0 rfl rfl ?_
        refine xi_iload_n (pc' := 2) (x := 0) kc_12_1 rfl rfl ?_
        refine xi_cmt (pc' := 14) kc_12_2 rfl (xc_lt_t (X := a2.toInt) (Y := 0) rfl (by decide) (by omega)) ?_
        refine xi_iconst (pc' := 15) (v := 0) kc_12_14 rfl rfl ?_
        refine xi_ireturn kc_12_15 mr_12 rfl ?_
        show xw J ov 99 65 (21, [(0, .ref 115), (1, .int a1), (2, .int a2), (3, .int a3), (4, .int a4)], [.int 0], hh2) _
        refine xi_ift (pc' := 33) kc_65_21 rfl rfl ?_
        refine xi_aload_n (pc' := 34) (x := 115) kc_65_33 rfl rfl ?_
        refine xi_iconst (pc' := 35) (v := (-1)) kc_65_34 rfl rfl ?_
        refine xi_virtual (mj := 13) (as := [.int (-1)]) (st1 := []) (lv0 := [(0, .ref 115), (1, .int (-1))]) kc_65_35 rfl rfl rfl rfl rfl eh2.1 (Nat.le_of_ble_eq_true rfl) (hJ _ _ _ _ (by decide)) (xm_le ml_13 rfl) rfl ?_
        refine xi_aload_n (pc' := 1) (x := 115) kc_13_0 rfl rfl ?_
        refine xi_getfield (pc' := 4) (v := .ref 140) kc_13_1 rfl rfl rfl eh2.1 rfl ?_
        refine xi_iload_n (pc' := 5) (x := (-1)) kc_13_4 rfl rfl ?_
        refine xi_ineg (pc' := 6) (v := 1) kc_13_5 rfl rfl ?_
        refine xi_dup2 (pc' := 7) kc_13_6 rfl ⟨rfl, rfl⟩ ?_
        refine xi_iaload (pc' := 8) (v := 0) kc_13_7 rfl ((eh2.2.1 140 (by decide)).trans ((eh1.2.1 140 (by decide)).trans (F 140 _ hl_140))) (by decide) rfl (xi_in (n := 7) (by decide) (by decide)) rfl ?_
        refine xi_iconst (pc' := 9) (v := 1) kc_13_8 rfl rfl ?_
        refine xi_iadd (pc' := 10) (v := 1) kc_13_9 rfl rfl ?_
        refine xi_iastore (pc' := 11) (x' := [0, 1, 0, 0, 0, 0, 0]) kc_13_10 rfl ((eh2.2.1 140 (by decide)).trans ((eh1.2.1 140 (by decide)).trans (F 140 _ hl_140))) rfl (xi_in (n := 7) (by decide) (by decide)) rfl (fun hh3 eh3 => ?_)
        refine xi_iload_n (pc' := 12) (x := (-1)) kc_13_11 rfl rfl ?_
        refine xi_ireturn kc_13_12 mr_13 rfl ?_
        show xw J ov 99 65 (38, [(0, .ref 115), (1, .int a1), (2, .int a2), (3, .int a3), (4, .int a4)], [.int (-1)], hh3) _
        refine xi_ireturn kc_65_38 mr_65 rfl ?_
        show xw J ov 100 196 (1215, [(4, .int 0), (3, .ref 167), (2, .ref 115), (1, .ref 0), (0, .ref 1000000)], [.int (-1), .int (-1)], hh3) _
        refine xi_cmt (pc' := 1528) kc_196_1215 rfl rfl ?_
        refine xi_iinc (pc' := 1531) (x := 0) (v := 6) (lv' := [(4, .int 6), (3, .ref 167), (2, .ref 115), (1, .ref 0), (0, .ref 1000000)]) kc_196_1528 rfl rfl rfl rfl (xm_lt ml_196 rfl) ?_
        refine xi_goto (pc' := 23) kc_196_1531 rfl ?_
        refine xi_iload (pc' := 25) (x := 6) kc_196_23 rfl rfl ?_
        refine xi_aload_n (pc' := 26) (x := 1000000) kc_196_25 rfl rfl ?_
        refine xi_arraylength (pc' := 27) (n := 6) (v := 6) kc_196_26 rfl (xl_lenO (by decide) hov0 rfl) rfl ?_
        refine xi_bipush (pc' := 29) (v := 6) kc_196_27 rfl rfl ?_
        refine xi_isub (pc' := 30) (v := 0) kc_196_29 rfl rfl ?_
        refine xi_cmt (pc' := 1534) kc_196_30 rfl rfl ?_
        refine xi_iconst (pc' := 1535) (v := 1) kc_196_1534 rfl rfl ?_
        refine xi_ireturn kc_196_1535 mr_196 rfl ?_
        refine ⟨rfl, ?_, ?_⟩
        · rw [eh3.2.2.1, eh2.2.2.1, eh1.2.2.1]; exact hn0
        · rw [eh3.2.2.2, eh2.2.2.2, eh1.2.2.2]; exact hz0
      · refine xi_iff (pc' := 14) kc_168_11 rfl (xc_lt_f (X := a2.toInt) (Y := 0) rfl (by decide) (by omega)) ?_
        refine xi_iload_n (pc' := 15) (x := a2) kc_168_14 rfl rfl ?_
        refine xi_iconst (pc' := 16) (v := 4) kc_168_15 rfl rfl ?_
        by_cases c4 : 4 ≤ a2.toInt
        · refine xi_cmt (pc' := 29) kc_168_16 rfl (xc_ge_t (X := a2.toInt) (Y := 4) rfl (by decide) (by omega)) ?_
          refine xi_aload_n (pc' := 30) (x := 0) kc_168_29 rfl rfl ?_
          refine xi_iconst (pc' := 31) (v := (-1)) kc_168_30 rfl rfl ?_
          refine xi_virtual (mj := 91) (as := [.int (-1)]) (st1 := []) (lv0 := [(0, .ref 0), (1, .int (-1))]) kc_168_31 rfl rfl rfl rfl rfl (F 0 _ hl_0) (Nat.le_of_ble_eq_true rfl) (hJ _ _ _ _ (by decide)) (xm_le ml_91 rfl) rfl ?_
          refine xi_iload_n (pc' := 1) (x := (-1)) kc_91_0 rfl rfl ?_
          refine xi_ineg (pc' := 2) (v := 1) kc_91_1 rfl rfl ?_
          refine xi_istore_n (pc' := 3) (lv' := [(2, .int 1), (0, .ref 0), (1, .int (-1))]) kc_91_2 rfl rfl (xm_lt ml_91 rfl) ?_
          refine xi_iload_n (pc' := 4) (x := 1) kc_91_3 rfl rfl ?_
          refine xi_iff (pc' := 7) kc_91_4 rfl rfl ?_
          refine xi_iload_n (pc' := 8) (x := 1) kc_91_7 rfl rfl ?_
          refine xi_aload_n (pc' := 9) (x := 0) kc_91_8 rfl rfl ?_
          refine xi_getfield (pc' := 12) (v := .ref 94) kc_91_9 rfl rfl rfl (F 0 _ hl_0) rfl ?_
          refine xi_arraylength (pc' := 13) (n := 7) (v := 7) kc_91_12 rfl (xl_lenI (by decide) (by decide) (F 94 _ hl_94) (by simp only [List.length_replicate, List.length_cons, List.length_nil])) rfl ?_
          refine xi_cmf (pc' := 16) kc_91_13 rfl rfl ?_
          refine xi_aload_n (pc' := 17) (x := 0) kc_91_16 rfl rfl ?_
          refine xi_getfield (pc' := 20) (v := .ref 94) kc_91_17 rfl rfl rfl (F 0 _ hl_0) rfl ?_
          refine xi_iload_n (pc' := 21) (x := 1) kc_91_20 rfl rfl ?_
          refine xi_dup2 (pc' := 22) kc_91_21 rfl ⟨rfl, rfl⟩ ?_
          refine xi_iaload (pc' := 23) (v := 0) kc_91_22 rfl (F 94 _ hl_94) (by decide) rfl (xi_in (n := 7) (by decide) (by decide)) rfl ?_
          refine xi_iconst (pc' := 24) (v := 1) kc_91_23 rfl rfl ?_
          refine xi_iadd (pc' := 25) (v := 1) kc_91_24 rfl rfl ?_
          refine xi_iastore (pc' := 26) (x' := [0, 1, 0, 0, 0, 0, 0]) kc_91_25 rfl (F 94 _ hl_94) rfl (xi_in (n := 7) (by decide) (by decide)) rfl (fun hh1 eh1 => ?_)
          refine xi_iload_n (pc' := 27) (x := (-1)) kc_91_26 rfl rfl ?_
          refine xi_ireturn kc_91_27 mr_91 rfl ?_
          show xw J ov 99 168 (34, [(0, .ref 0), (1, .int a1), (2, .int a2), (3, .int a3), (4, .int a4)], [.int (-1)], hh1) _
          refine xi_ireturn kc_168_34 mr_168 rfl ?_
          show xw J ov 100 196 (1187, [(4, .int 0), (3, .ref 167), (2, .ref 115), (1, .ref 0), (0, .ref 1000000)], [.int (-1)], hh1) _
          refine xi_aload_n (pc' := 1188) (x := 115) kc_196_1187 rfl rfl ?_
          refine xi_aload_n (pc' := 1189) (x := 1000000) kc_196_1188 rfl rfl ?_
          refine xi_iload (pc' := 1191) (x := 0) kc_196_1189 rfl rfl ?_
          refine xi_iconst (pc' := 1192) (v := 1) kc_196_1191 rfl rfl ?_
          refine xi_iadd (pc' := 1193) (v := 1) kc_196_1192 rfl rfl ?_
          refine xi_ialoadO (pc' := 1194) (v := a1) kc_196_1193 rfl (by decide) hov0 (xi_in (n := 6) (by decide) (by decide)) rfl ?_
          refine xi_aload_n (pc' := 1195) (x := 1000000) kc_196_1194 rfl rfl ?_
          refine xi_iload (pc' := 1197) (x := 0) kc_196_1195 rfl rfl ?_
          refine xi_iconst (pc' := 1198) (v := 2) kc_196_1197 rfl rfl ?_
          refine xi_iadd (pc' := 1199) (v := 2) kc_196_1198 rfl rfl ?_
          refine xi_ialoadO (pc' := 1200) (v := a2) kc_196_1199 rfl (by decide) hov0 (xi_in (n := 6) (by decide) (by decide)) rfl ?_
          refine xi_aload_n (pc' := 1201) (x := 1000000) kc_196_1200 rfl rfl ?_
          refine xi_iload (pc' := 1203) (x := 0) kc_196_1201 rfl rfl ?_
          refine xi_iconst (pc' := 1204) (v := 3) kc_196_1203 rfl rfl ?_
          refine xi_iadd (pc' := 1205) (v := 3) kc_196_1204 rfl rfl ?_
          refine xi_ialoadO (pc' := 1206) (v := a3) kc_196_1205 rfl (by decide) hov0 (xi_in (n := 6) (by decide) (by decide)) rfl ?_
          refine xi_aload_n (pc' := 1207) (x := 1000000) kc_196_1206 rfl rfl ?_
          refine xi_iload (pc' := 1209) (x := 0) kc_196_1207 rfl rfl ?_
          refine xi_iconst (pc' := 1210) (v := 4) kc_196_1209 rfl rfl ?_
          refine xi_iadd (pc' := 1211) (v := 4) kc_196_1210 rfl rfl ?_
          refine xi_ialoadO (pc' := 1212) (v := a4) kc_196_1211 rfl (by decide) hov0 (xi_in (n := 6) (by decide) (by decide)) rfl ?_
          refine xi_virtual (mj := 65) (as := [.int a1, .int a2, .int a3, .int a4]) (st1 := [.int (-1)]) (lv0 := [(0, .ref 115), (1, .int a1), (2, .int a2), (3, .int a3), (4, .int a4)]) kc_196_1212 rfl rfl rfl rfl rfl ((eh1.2.1 115 (by decide)).trans (F 115 _ hl_115)) (Nat.le_of_ble_eq_true rfl) (hJ _ _ _ _ (by decide)) (xm_le ml_65 rfl) rfl ?_
          refine xi_aload_n (pc' := 1) (x := 115) kc_65_0 rfl rfl ?_
          refine xi_iconst (pc' := 2) (v := 0) kc_65_1 rfl rfl ?_
          refine xi_putfield (pc' := 5) (fs' := [.int 0, .int 0, .ref 116, .ref 117, .ref 118, .ref 119, .ref 120, .ref 121, .ref 122, .ref 123, .ref 124, .ref 125, .ref 126, .ref 127, .ref 128, .ref 129, .int 4, .ref 130, .int 0, .ref 131, .ref 132, .ref 133, .ref 134, .int 0, .ref 135, .ref 136, .ref 137, .ref 138, .ref 139, .ref 140, .ref 141, .ref 142, .int 0, .int 0, .int 0, .ref 143, .ref 144, .ref 145, .ref 146, .ref 147, .ref 148, .int 0, .ref 149, .ref 150, .ref 151, .int 0, .ref 152, .ref 153, .ref 154, .ref 155, .ref 156, .ref 157, .ref 158, .ref 159, .int 0, .ref 160, .int 0, .ref 161, .ref 162, .ref 163, .ref 164, .int 0, .ref 165, .ref 166]) kc_65_2 rfl rfl rfl ((eh1.2.1 115 (by decide)).trans (F 115 _ hl_115)) rfl rfl rfl (Nat.le_of_ble_eq_true rfl) rfl (fun hh2 eh2 => ?_)
          refine xi_iload_n (pc' := 6) (x := a1) kc_65_5 rfl rfl ?_
          refine xi_iconst (pc' := 7) (v := 0) kc_65_6 rfl rfl ?_
          refine xi_bipush (pc' := 9) (v := 23) kc_65_7 rfl rfl ?_
          refine xi_static (mj := 12) (as := [.int a1, .int 0, .int 23]) (st1 := []) (lv0 := [(0, .int a1), (1, .int 0), (2, .int 23)]) kc_65_9 rfl rfl (Nat.le_of_ble_eq_true rfl) rfl rfl (Nat.le_of_ble_eq_true rfl) (hJ _ _ _ _ (by decide)) (xm_le ml_12 rfl) rfl ?_
          refine xi_iload_n (pc' := 1) (x := a1) kc_12_0 rfl rfl ?_
          refine xi_iload_n (pc' := 2) (x := 0) kc_12_1 rfl rfl ?_
          refine xi_cmf (pc' := 5) kc_12_2 rfl (xc_lt_f (X := a1.toInt) (Y := 0) rfl (by decide) (by omega)) ?_
          refine xi_iload_n (pc' := 6) (x := a1) kc_12_5 rfl rfl ?_
          refine xi_iload_n (pc' := 7) (x := 23) kc_12_6 rfl rfl ?_
          refine xi_cmf (pc' := 10) kc_12_7 rfl (xc_gt_f (X := a1.toInt) (Y := 23) rfl (by decide) (by omega)) ?_
          refine xi_iconst (pc' := 11) (v := 1) kc_12_10 rfl rfl ?_
          refine xi_goto (pc' := 15) kc_12_11 rfl ?_
          refine xi_ireturn kc_12_15 mr_12 rfl ?_
          show xw J ov 99 65 (12, [(0, .ref 115), (1, .int a1), (2, .int a2), (3, .int a3), (4, .int a4)], [.int 1], hh2) _
          refine xi_iff (pc' := 15) kc_65_12 rfl rfl ?_
          refine xi_iload_n (pc' := 16) (x := a2) kc_65_15 rfl rfl ?_
          refine xi_iconst (pc' := 17) (v := 0) kc_65_16 rfl rfl ?_
          refine xi_iconst (pc' := 18) (v := 3) kc_65_17 rfl rfl ?_
          refine xi_static (mj := 12) (as := [.int a2, .int 0, .int 3]) (st1 := []) (lv0 := [(0, .int a2), (1, .int 0), (2, .int 3)]) kc_65_18 rfl rfl (Nat.le_of_ble_eq_true rfl) rfl rfl (Nat.le_of_ble_eq_true rfl) (hJ _ _ _ _ (by decide)) (xm_le ml_12 rfl) rfl ?_
          refine xi_iload_n (pc' := 1) (x := a2) kc_12_0 rfl rfl ?_
          refine xi_iload_n (pc' := 2) (x := 0) kc_12_1 rfl rfl ?_
          refine xi_cmf (pc' := 5) kc_12_2 rfl (xc_lt_f (X := a2.toInt) (Y := 0) rfl (by decide) (by omega)) ?_
          refine xi_iload_n (pc' := 6) (x := a2) kc_12_5 rfl rfl ?_
          refine xi_iload_n (pc' := 7) (x := 3) kc_12_6 rfl rfl ?_
          refine xi_cmt (pc' := 14) kc_12_7 rfl (xc_gt_t (X := a2.toInt) (Y := 3) rfl (by decide) (by omega)) ?_
          refine xi_iconst (pc' := 15) (v := 0) kc_12_14 rfl rfl ?_
          refine xi_ireturn kc_12_15 mr_12 rfl ?_
          show xw J ov 99 65 (21, [(0, .ref 115), (1, .int a1), (2, .int a2), (3, .int a3), (4, .int a4)], [.int 0], hh2) _
          refine xi_ift (pc' := 33) kc_65_21 rfl rfl ?_
          refine xi_aload_n (pc' := 34) (x := 115) kc_65_33 rfl rfl ?_
          refine xi_iconst (pc' := 35) (v := (-1)) kc_65_34 rfl rfl ?_
          refine xi_virtual (mj := 13) (as := [.int (-1)]) (st1 := []) (lv0 := [(0, .ref 115), (1, .int (-1))]) kc_65_35 rfl rfl rfl rfl rfl eh2.1 (Nat.le_of_ble_eq_true rfl) (hJ _ _ _ _ (by decide)) (xm_le ml_13 rfl) rfl ?_
          refine xi_aload_n (pc' := 1) (x := 115) kc_13_0 rfl rfl ?_
          refine xi_getfield (pc' := 4) (v := .ref 140) kc_13_1 rfl rfl rfl eh2.1 rfl ?_
          refine xi_iload_n (pc' := 5) (x := (-1)) kc_13_4 rfl rfl ?_
          refine xi_ineg (pc' := 6) (v := 1) kc_13_5 rfl rfl ?_
          refine xi_dup2 (pc' := 7) kc_13_6 rfl ⟨rfl, rfl⟩ ?_
          refine xi_iaload (pc' := 8) (v := 0) kc_13_7 rfl ((eh2.2.1 140 (by decide)).trans ((eh1.2.1 140 (by decide)).trans (F 140 _ hl_140))) (by decide) rfl (xi_in (n := 7) (by decide) (by decide)) rfl ?_
          refine xi_iconst (pc' := 9) (v := 1) kc_13_8 rfl rfl ?_
          refine xi_iadd (pc' := 10) (v := 1) kc_13_9 rfl rfl ?_
          refine xi_iastore (pc' := 11) (x' := [0, 1, 0, 0, 0, 0, 0]) kc_13_10 rfl ((eh2.2.1 140 (by decide)).trans ((eh1.2.1 140 (by decide)).trans (F 140 _ hl_140))) rfl (xi_in (n := 7) (by decide) (by decide)) rfl (fun hh3 eh3 => ?_)
          refine xi_iload_n (pc' := 12) (x := (-1)) kc_13_11 rfl rfl ?_
          refine xi_ireturn kc_13_12 mr_13 rfl ?_
          show xw J ov 99 65 (38, [(0, .ref 115), (1, .int a1), (2, .int a2), (3, .int a3), (4, .int a4)], [.int (-1)], hh3) _
          refine xi_ireturn kc_65_38 mr_65 rfl ?_
          show xw J ov 100 196 (1215, [(4, .int 0), (3, .ref 167), (2, .ref 115), (1, .ref 0), (0, .ref 1000000)], [.int (-1), .int (-1)], hh3) _
          refine xi_cmt (pc' := 1528) kc_196_1215 rfl rfl ?_
          refine xi_iinc (pc' := 1531) (x := 0) (v := 6) (lv' := [(4, .int 6), (3, .ref 167), (2, .ref 115), (1, .ref 0), (0, .ref 1000000)]) kc_196_1528 rfl rfl rfl rfl (xm_lt ml_196 rfl) ?_
          refine xi_goto (pc' := 23) kc_196_1531 rfl ?_
          refine xi_iload (pc' := 25) (x := 6) kc_196_23 rfl rfl ?_
          refine xi_aload_n (pc' := 26) (x := 1000000) kc_196_25 rfl rfl ?_
          refine xi_arraylength (pc' := 27) (n := 6) (v := 6) kc_196_26 rfl (xl_lenO (by decide) hov0 rfl) rfl ?_
          refine xi_bipush (pc' := 29) (v := 6) kc_196_27 rfl rfl ?_
          refine xi_isub (pc' := 30) (v := 0) kc_196_29 rfl rfl ?_
          refine xi_cmt (pc' := 1534) kc_196_30 rfl rfl ?_
          refine xi_iconst (pc' := 1535) (v := 1) kc_196_1534 rfl rfl ?_
          refine xi_ireturn kc_196_1535 mr_196 rfl ?_
          refine ⟨rfl, ?_, ?_⟩
          · rw [eh3.2.2.1, eh2.2.2.1, eh1.2.2.1]; exact hn0
          · rw [eh3.2.2.2, eh2.2.2.2, eh1.2.2.2]; exact hz0
        · refine xi_cmf (pc' := 19) kc_168_16 rfl (xc_ge_f (X := a2.toInt) (Y := 4) rfl (by decide) (by omega)) ?_
          refine xi_iload_n (pc' := 20) (x := a3) kc_168_19 rfl rfl ?_
          by_cases c5 : a3.toInt < 0
          · refine xi_ift (pc' := 29) kc_168_20 rfl (xc_lt_t (X := a3.toInt) (Y := 0) rfl (by decide) (by omega)) ?_
            refine xi_aload_n (pc' := 30) (x := 0) kc_168_29 rfl rfl ?_
            refine xi_iconst (pc' := 31) (v := (-1)) kc_168_30 rfl rfl ?_
            refine xi_virtual (mj := 91) (as := [.int (-1)]) (st1 := []) (lv0 := [(0, .ref 0), (1, .int (-1))]) kc_168_31 rfl rfl rfl rfl rfl (F 0 _ hl_0) (Nat.le_of_ble_eq_true rfl) (hJ _ _ _ _ (by decide)) (xm_le ml_91 rfl) rfl ?_
            refine xi_iload_n (pc' := 1) (x := (-1)) kc_91_0 rfl rfl ?_
            refine xi_ineg (pc' := 2) (v := 1) kc_91_1 rfl rfl ?_
            refine xi_istore_n (pc' := 3) (lv' := [(2, .int 1), (0, .ref 0), (1, .int (-1))]) kc_91_2 rfl rfl (xm_lt ml_91 rfl) ?_
            refine xi_iload_n (pc' := 4) (x := 1) kc_91_3 rfl rfl ?_
            refine xi_iff (pc' := 7) kc_91_4 rfl rfl ?_
            refine xi_iload_n (pc' := 8) (x := 1) kc_91_7 rfl rfl ?_
            refine xi_aload_n (pc' := 9) (x := 0) kc_91_8 rfl rfl ?_
            refine xi_getfield (pc' := 12) (v := .ref 94) kc_91_9 rfl rfl rfl (F 0 _ hl_0) rfl ?_
            refine xi_arraylength (pc' := 13) (n := 7) (v := 7) kc_91_12 rfl (xl_lenI (by decide) (by decide) (F 94 _ hl_94) (by simp only [List.length_replicate, List.length_cons, List.length_nil])) rfl ?_
            refine xi_cmf (pc' := 16) kc_91_13 rfl rfl ?_
            refine xi_aload_n (pc' := 17) (x := 0) kc_91_16 rfl rfl ?_
            refine xi_getfield (pc' := 20) (v := .ref 94) kc_91_17 rfl rfl rfl (F 0 _ hl_0) rfl ?_
            refine xi_iload_n (pc' := 21) (x := 1) kc_91_20 rfl rfl ?_
            refine xi_dup2 (pc' := 22) kc_91_21 rfl ⟨rfl, rfl⟩ ?_
            refine xi_iaload (pc' := 23) (v := 0) kc_91_22 rfl (F 94 _ hl_94) (by decide) rfl (xi_in (n := 7) (by decide) (by decide)) rfl ?_
            refine xi_iconst (pc' := 24) (v := 1) kc_91_23 rfl rfl ?_
            refine xi_iadd (pc' := 25) (v := 1) kc_91_24 rfl rfl ?_
            refine xi_iastore (pc' := 26) (x' := [0, 1, 0, 0, 0, 0, 0]) kc_91_25 rfl (F 94 _ hl_94) rfl (xi_in (n := 7) (by decide) (by decide)) rfl (fun hh1 eh1 => ?_)
            refine xi_iload_n (pc' := 27) (x := (-1)) kc_91_26 rfl rfl ?_
            refine xi_ireturn kc_91_27 mr_91 rfl ?_
            show xw J ov 99 168 (34, [(0, .ref 0), (1, .int a1), (2, .int a2), (3, .int a3), (4, .int a4)], [.int (-1)], hh1) _
            refine xi_ireturn kc_168_34 mr_168 rfl ?_
            show xw J ov 100 196 (1187, [(4, .int 0), (3, .ref 167), (2, .ref 115), (1, .ref 0), (0, .ref 1000000)], [.int (-1)], hh1) _
            refine xi_aload_n (pc' := 1188) (x := 115) kc_196_1187 rfl rfl ?_
            refine xi_aload_n (pc' := 1189) (x := 1000000) kc_196_1188 rfl rfl ?_
            refine xi_iload (pc' := 1191) (x := 0) kc_196_1189 rfl rfl ?_
            refine xi_iconst (pc' := 1192) (v := 1) kc_196_1191 rfl rfl ?_
            refine xi_iadd (pc' := 1193) (v := 1) kc_196_1192 rfl rfl ?_
            refine xi_ialoadO (pc' := 1194) (v := a1) kc_196_1193 rfl (by decide) hov0 (xi_in (n := 6) (by decide) (by decide)) rfl ?_
            refine xi_aload_n (pc' := 1195) (x := 1000000) kc_196_1194 rfl rfl ?_
            refine xi_iload (pc' := 1197) (x := 0) kc_196_1195 rfl rfl ?_
            refine xi_iconst (pc' := 1198) (v := 2) kc_196_1197 rfl rfl ?_
            refine xi_iadd (pc' := 1199) (v := 2) kc_196_1198 rfl rfl ?_
            refine xi_ialoadO (pc' := 1200) (v := a2) kc_196_1199 rfl (by decide) hov0 (xi_in (n := 6) (by decide) (by decide)) rfl ?_
            refine xi_aload_n (pc' := 1201) (x := 1000000) kc_196_1200 rfl rfl ?_
            refine xi_iload (pc' := 1203) (x := 0) kc_196_1201 rfl rfl ?_
            refine xi_iconst (pc' := 1204) (v := 3) kc_196_1203 rfl rfl ?_
            refine xi_iadd (pc' := 1205) (v := 3) kc_196_1204 rfl rfl ?_
            refine xi_ialoadO (pc' := 1206) (v := a3) kc_196_1205 rfl (by decide) hov0 (xi_in (n := 6) (by decide) (by decide)) rfl ?_
            refine xi_aload_n (pc' := 1207) (x := 1000000) kc_196_1206 rfl rfl ?_
            refine xi_iload (pc' := 1209) (x := 0) kc_196_1207 rfl rfl ?_
            refine xi_iconst (pc' := 1210) (v := 4) kc_196_1209 rfl rfl ?_
            refine xi_iadd (pc' := 1211) (v := 4) kc_196_1210 rfl rfl ?_
            refine xi_ialoadO (pc' := 1212) (v := a4) kc_196_1211 rfl (by decide) hov0 (xi_in (n := 6) (by decide) (by decide)) rfl ?_
            refine xi_virtual (mj := 65) (as := [.int a1, .int a2, .int a3, .int a4]) (st1 := [.int (-1)]) (lv0 := [(0, .ref 115), (1, .int a1), (2, .int a2), (3, .int a3), (4, .int a4)]) kc_196_1212 rfl rfl rfl rfl rfl ((eh1.2.1 115 (by decide)).trans (F 115 _ hl_115)) (Nat.le_of_ble_eq_true rfl) (hJ _ _ _ _ (by decide)) (xm_le ml_65 rfl) rfl ?_
            refine xi_aload_n (pc' := 1) (x := 115) kc_65_0 rfl rfl ?_
            refine xi_iconst (pc' := 2) (v := 0) kc_65_1 rfl rfl ?_
            refine xi_putfield (pc' := 5) (fs' := [.int 0, .int 0, .ref 116, .ref 117, .ref 118, .ref 119, .ref 120, .ref 121, .ref 122, .ref 123, .ref 124, .ref 125, .ref 126, .ref 127, .ref 128, .ref 129, .int 4, .ref 130, .int 0, .ref 131, .ref 132, .ref 133, .ref 134, .int 0, .ref 135, .ref 136, .ref 137, .ref 138, .ref 139, .ref 140, .ref 141, .ref 142, .int 0, .int 0, .int 0, .ref 143, .ref 144, .ref 145, .ref 146, .ref 147, .ref 148, .int 0, .ref 149, .ref 150, .ref 151, .int 0, .ref 152, .ref 153, .ref 154, .ref 155, .ref 156, .ref 157, .ref 158, .ref 159, .int 0, .ref 160, .int 0, .ref 161, .ref 162, .ref 163, .ref 164, .int 0, .ref 165, .ref 166]) kc_65_2 rfl rfl rfl ((eh1.2.1 115 (by decide)).trans (F 115 _ hl_115)) rfl rfl rfl (Nat.le_of_ble_eq_true rfl) rfl (fun hh2 eh2 => ?_)
            refine xi_iload_n (pc' := 6) (x := a1) kc_65_5 rfl rfl ?_
            refine xi_iconst (pc' := 7) (v := 0) kc_65_6 rfl rfl ?_
            refine xi_bipush (pc' := 9) (v := 23) kc_65_7 rfl rfl ?_
            refine xi_static (mj := 12) (as := [.int a1, .int 0, .int 23]) (st1 := []) (lv0 := [(0, .int a1), (1, .int 0), (2, .int 23)]) kc_65_9 rfl rfl (Nat.le_of_ble_eq_true rfl) rfl rfl (Nat.le_of_ble_eq_true rfl) (hJ _ _ _ _ (by decide)) (xm_le ml_12 rfl) rfl ?_
            refine xi_iload_n (pc' := 1) (x := a1) kc_12_0 rfl rfl ?_
            refine xi_iload_n (pc' := 2) (x := 0) kc_12_1 rfl rfl ?_
            refine xi_cmf (pc' := 5) kc_12_2 rfl (xc_lt_f (X := a1.toInt) (Y := 0) rfl (by decide) (by omega)) ?_
            refine xi_iload_n (pc' := 6) (x := a1) kc_12_5 rfl rfl ?_
            refine xi_iload_n (pc' := 7) (x := 23) kc_12_6 rfl rfl ?_
            refine xi_cmf (pc' := 10) kc_12_7 rfl (xc_gt_f (X := a1.toInt) (Y := 23) rfl (by decide) (by omega)) ?_
            refine xi_iconst (pc' := 11) (v := 1) kc_12_10 rfl rfl ?_
            refine xi_goto (pc' := 15) kc_12_11 rfl ?_
            refine xi_ireturn kc_12_15 mr_12 rfl ?_
            show xw J ov 99 65 (12, [(0, .ref 115), (1, .int a1), (2, .int a2), (3, .int a3), (4, .int a4)], [.int 1], hh2) _
            refine xi_iff (pc' := 15) kc_65_12 rfl rfl ?_
            refine xi_iload_n (pc' := 16) (x := a2) kc_65_15 rfl rfl ?_
            refine xi_iconst (pc' := 17) (v := 0) kc_65_16 rfl rfl ?_
            refine xi_iconst (pc' := 18) (v := 3) kc_65_17 rfl rfl ?_
            refine xi_static (mj := 12) (as := [.int a2, .int 0, .int 3]) (st1 := []) (lv0 := [(0, .int a2), (1, .int 0), (2, .int 3)]) kc_65_18 rfl rfl (Nat.le_of_ble_eq_true rfl) rfl rfl (Nat.le_of_ble_eq_true rfl) (hJ _ _ _ _ (by decide)) (xm_le ml_12 rfl) rfl ?_
            refine xi_iload_n (pc' := 1) (x := a2) kc_12_0 rfl rfl ?_
            refine xi_iload_n (pc' := 2) (x := 0) kc_12_1 rfl rfl ?_
            refine xi_cmf (pc' := 5) kc_12_2 rfl (xc_lt_f (X := a2.toInt) (Y := 0) rfl (by decide) (by omega)) ?_
            refine xi_iload_n (pc' := 6) (x := a2) kc_12_5 rfl rfl ?_
            refine xi_iload_n (pc' := 7) (x := 3) kc_12_6 rfl rfl ?_
            refine xi_cmf (pc' := 10) kc_12_7 rfl (xc_gt_f (X := a2.toInt) (Y := 3) rfl (by decide) (by omega)) ?_
            refine xi_iconst (pc' := 11) (v := 1) kc_12_10 rfl rfl ?_
            refine xi_goto (pc' := 15) kc_12_11 rfl ?_
            refine xi_ireturn kc_12_15 mr_12 rfl ?_
            show xw J ov 99 65 (21, [(0, .ref 115), (1, .int a1), (2, .int a2), (3, .int a3), (4, .int a4)], [.int 1], hh2) _
            refine xi_iff (pc' := 24) kc_65_21 rfl rfl ?_
            refine xi_iload_n (pc' := 25) (x := a3) kc_65_24 rfl rfl ?_
            refine xi_iconst (pc' := 26) (v := 0) kc_65_25 rfl rfl ?_
            refine xi_iconst (pc' := 27) (v := 5) kc_65_26 rfl rfl ?_
            refine xi_static (mj := 12) (as := [.int a3, .int 0, .int 5]) (st1 := []) (lv0 := [(0, .int a3), (1, .int 0), (2, .int 5)]) kc_65_27 rfl rfl (Nat.le_of_ble_eq_true rfl) rfl rfl (Nat.le_of_ble_eq_true rfl) (hJ _ _ _ _ (by decide)) (xm_le ml_12 rfl) rfl ?_
            refine xi_iload_n (pc' := 1) (x := a3) kc_12_0 rfl rfl ?_
            refine xi_iload_n (pc' := 2) (x := 0) kc_12_1 rfl rfl ?_
            refine xi_cmt (pc' := 14) kc_12_2 rfl (xc_lt_t (X := a3.toInt) (Y := 0) rfl (by decide) (by omega)) ?_
            refine xi_iconst (pc' := 15) (v := 0) kc_12_14 rfl rfl ?_
            refine xi_ireturn kc_12_15 mr_12 rfl ?_
            show xw J ov 99 65 (30, [(0, .ref 115), (1, .int a1), (2, .int a2), (3, .int a3), (4, .int a4)], [.int 0], hh2) _
            refine xi_iff (pc' := 33) kc_65_30 rfl rfl ?_
            refine xi_aload_n (pc' := 34) (x := 115) kc_65_33 rfl rfl ?_
            refine xi_iconst (pc' := 35) (v := (-1)) kc_65_34 rfl rfl ?_
            refine xi_virtual (mj := 13) (as := [.int (-1)]) (st1 := []) (lv0 := [(0, .ref 115), (1, .int (-1))]) kc_65_35 rfl rfl rfl rfl rfl eh2.1 (Nat.le_of_ble_eq_true rfl) (hJ _ _ _ _ (by decide)) (xm_le ml_13 rfl) rfl ?_
            refine xi_aload_n (pc' := 1) (x := 115) kc_13_0 rfl rfl ?_
            refine xi_getfield (pc' := 4) (v := .ref 140) kc_13_1 rfl rfl rfl eh2.1 rfl ?_
            refine xi_iload_n (pc' := 5) (x := (-1)) kc_13_4 rfl rfl ?_
            refine xi_ineg (pc' := 6) (v := 1) kc_13_5 rfl rfl ?_
            refine xi_dup2 (pc' := 7) kc_13_6 rfl ⟨rfl, rfl⟩ ?_
            refine xi_iaload (pc' := 8) (v := 0) kc_13_7 rfl ((eh2.2.1 140 (by decide)).trans ((eh1.2.1 140 (by decide)).trans (F 140 _ hl_140))) (by decide) rfl (xi_in (n := 7) (by decide) (by decide)) rfl ?_
            refine xi_iconst (pc' := 9) (v := 1) kc_13_8 rfl rfl ?_
            refine xi_iadd (pc' := 10) (v := 1) kc_13_9 rfl rfl ?_
            refine xi_iastore (pc' := 11) (x' := [0, 1, 0, 0, 0, 0, 0]) kc_13_10 rfl ((eh2.2.1 140 (by decide)).trans ((eh1.2.1 140 (by decide)).trans (F 140 _ hl_140))) rfl (xi_in (n := 7) (by decide) (by decide)) rfl (fun hh3 eh3 => ?_)
            refine xi_iload_n (pc' := 12) (x := (-1)) kc_13_11 rfl rfl ?_
            refine xi_ireturn kc_13_12 mr_13 rfl ?_
            show xw J ov 99 65 (38, [(0, .ref 115), (1, .int a1), (2, .int a2), (3, .int a3), (4, .int a4)], [.int (-1)], hh3) _
            refine xi_ireturn kc_65_38 mr_65 rfl ?_
            show xw J ov 100 196 (1215, [(4, .int 0), (3, .ref 167), (2, .ref 115), (1, .ref 0), (0, .ref 1000000)], [.int (-1), .int (-1)], hh3) _
            refine xi_cmt (pc' := 1528) kc_196_1215 rfl rfl ?_
            refine xi_iinc (pc' := 1531) (x := 0) (v := 6) (lv' := [(4, .int 6), (3, .ref 167), (2, .ref 115), (1, .ref 0), (0, .ref 1000000)]) kc_196_1528 rfl rfl rfl rfl (xm_lt ml_196 rfl) ?_
            refine xi_goto (pc' := 23) kc_196_1531 rfl ?_
            refine xi_iload (pc' := 25) (x := 6) kc_196_23 rfl rfl ?_
            refine xi_aload_n (pc' := 26) (x := 1000000) kc_196_25 rfl rfl ?_
            refine xi_arraylength (pc' := 27) (n := 6) (v := 6) kc_196_26 rfl (xl_lenO (by decide) hov0 rfl) rfl ?_
            refine xi_bipush (pc' := 29) (v := 6) kc_196_27 rfl rfl ?_
            refine xi_isub (pc' := 30) (v := 0) kc_196_29 rfl rfl ?_
            refine xi_cmt (pc' := 1534) kc_196_30 rfl rfl ?_
            refine xi_iconst (pc' := 1535) (v := 1) kc_196_1534 rfl rfl ?_
            refine xi_ireturn kc_196_1535 mr_196 rfl ?_
            refine ⟨rfl, ?_, ?_⟩
            · rw [eh3.2.2.1, eh2.2.2.1, eh1.2.2.1]; exact hn0
            · rw [eh3.2.2.2, eh2.2.2.2, eh1.2.2.2]; exact hz0
          · refine xi_iff (pc' := 23) kc_168_20 rfl (xc_lt_f (X := a3.toInt) (Y := 0) rfl (by decide) (by omega)) ?_
            refine xi_iload_n (pc' := 24) (x := a3) kc_168_23 rfl rfl ?_
            refine xi_bipush (pc' := 26) (v := 6) kc_168_24 rfl rfl ?_
            by_cases c6 : a3.toInt < 6
            · refine xi_cmt (pc' := 35) kc_168_26 rfl (xc_lt_t (X := a3.toInt) (Y := 6) rfl (by decide) (by omega)) ?_
              refine xi_iload (pc' := 37) (x := a4) kc_168_35 rfl rfl ?_
              by_cases c7 : a4.toInt < 0
              · refine xi_ift (pc' := 46) kc_168_37 rfl (xc_lt_t (X := a4.toInt) (Y := 0) rfl (by decide) (by omega)) ?_
                refine xi_aload_n (pc' := 47) (x := 0) kc_168_46 rfl rfl ?_
                refine xi_bipush (pc' := 49) (v := (-2)) kc_168_47 rfl rfl ?_
                refine xi_virtual (mj := 91) (as := [.int (-2)]) (st1 := []) (lv0 := [(0, .ref 0), (1, .int (-2))]) kc_168_49 rfl rfl rfl rfl rfl (F 0 _ hl_0) (Nat.le_of_ble_eq_true rfl) (hJ _ _ _ _ (by decide)) (xm_le ml_91 rfl) rfl ?_
                refine xi_iload_n (pc' := 1) (x := (-2)) kc_91_0 rfl rfl ?_
                refine xi_ineg (pc' := 2) (v := 2) kc_91_1 rfl rfl ?_
                refine xi_istore_n (pc' := 3) (lv' := [(2, .int 2), (0, .ref 0), (1, .int (-2))]) kc_91_2 rfl rfl (xm_lt ml_91 rfl) ?_
                refine xi_iload_n (pc' := 4) (x := 2) kc_91_3 rfl rfl ?_
                refine xi_iff (pc' := 7) kc_91_4 rfl rfl ?_
                refine xi_iload_n (pc' := 8) (x := 2) kc_91_7 rfl rfl ?_
                refine xi_aload_n (pc' := 9) (x := 0) kc_91_8 rfl rfl ?_
                refine xi_getfield (pc' := 12) (v := .ref 94) kc_91_9 rfl rfl rfl (F 0 _ hl_0) rfl ?_
                refine xi_arraylength (pc' := 13) (n := 7) (v := 7) kc_91_12 rfl (xl_lenI (by decide) (by decide) (F 94 _ hl_94) (by simp only [List.length_replicate, List.length_cons, List.length_nil])) rfl ?_
                refine xi_cmf (pc' := 16) kc_91_13 rfl rfl ?_
                refine xi_aload_n (pc' := 17) (x := 0) kc_91_16 rfl rfl ?_
                refine xi_getfield (pc' := 20) (v := .ref 94) kc_91_17 rfl rfl rfl (F 0 _ hl_0) rfl ?_
                refine xi_iload_n (pc' := 21) (x := 2) kc_91_20 rfl rfl ?_
                refine xi_dup2 (pc' := 22) kc_91_21 rfl ⟨rfl, rfl⟩ ?_
                refine xi_iaload (pc' := 23) (v := 0) kc_91_22 rfl (F 94 _ hl_94) (by decide) rfl (xi_in (n := 7) (by decide) (by decide)) rfl ?_
                refine xi_iconst (pc' := 24) (v := 1) kc_91_23 rfl rfl ?_
                refine xi_iadd (pc' := 25) (v := 1) kc_91_24 rfl rfl ?_
                refine xi_iastore (pc' := 26) (x' := [0, 0, 1, 0, 0, 0, 0]) kc_91_25 rfl (F 94 _ hl_94) rfl (xi_in (n := 7) (by decide) (by decide)) rfl (fun hh1 eh1 => ?_)
                refine xi_iload_n (pc' := 27) (x := (-2)) kc_91_26 rfl rfl ?_
                refine xi_ireturn kc_91_27 mr_91 rfl ?_
                show xw J ov 99 168 (52, [(0, .ref 0), (1, .int a1), (2, .int a2), (3, .int a3), (4, .int a4)], [.int (-2)], hh1) _
                refine xi_ireturn kc_168_52 mr_168 rfl ?_
                show xw J ov 100 196 (1187, [(4, .int 0), (3, .ref 167), (2, .ref 115), (1, .ref 0), (0, .ref 1000000)], [.int (-2)], hh1) _
                refine xi_aload_n (pc' := 1188) (x := 115) kc_196_1187 rfl rfl ?_
                refine xi_aload_n (pc' := 1189) (x := 1000000) kc_196_1188 rfl rfl ?_
                refine xi_iload (pc' := 1191) (x := 0) kc_196_1189 rfl rfl ?_
                refine xi_iconst (pc' := 1192) (v := 1) kc_196_1191 rfl rfl ?_
                refine xi_iadd (pc' := 1193) (v := 1) kc_196_1192 rfl rfl ?_
                refine xi_ialoadO (pc' := 1194) (v := a1) kc_196_1193 rfl (by decide) hov0 (xi_in (n := 6) (by decide) (by decide)) rfl ?_
                refine xi_aload_n (pc' := 1195) (x := 1000000) kc_196_1194 rfl rfl ?_
                refine xi_iload (pc' := 1197) (x := 0) kc_196_1195 rfl rfl ?_
                refine xi_iconst (pc' := 1198) (v := 2) kc_196_1197 rfl rfl ?_
                refine xi_iadd (pc' := 1199) (v := 2) kc_196_1198 rfl rfl ?_
                refine xi_ialoadO (pc' := 1200) (v := a2) kc_196_1199 rfl (by decide) hov0 (xi_in (n := 6) (by decide) (by decide)) rfl ?_
                refine xi_aload_n (pc' := 1201) (x := 1000000) kc_196_1200 rfl rfl ?_
                refine xi_iload (pc' := 1203) (x := 0) kc_196_1201 rfl rfl ?_
                refine xi_iconst (pc' := 1204) (v := 3) kc_196_1203 rfl rfl ?_
                refine xi_iadd (pc' := 1205) (v := 3) kc_196_1204 rfl rfl ?_
                refine xi_ialoadO (pc' := 1206) (v := a3) kc_196_1205 rfl (by decide) hov0 (xi_in (n := 6) (by decide) (by decide)) rfl ?_
                refine xi_aload_n (pc' := 1207) (x := 1000000) kc_196_1206 rfl rfl ?_
                refine xi_iload (pc' := 1209) (x := 0) kc_196_1207 rfl rfl ?_
                refine xi_iconst (pc' := 1210) (v := 4) kc_196_1209 rfl rfl ?_
                refine xi_iadd (pc' := 1211) (v := 4) kc_196_1210 rfl rfl ?_
                refine xi_ialoadO (pc' := 1212) (v := a4) kc_196_1211 rfl (by decide) hov0 (xi_in (n := 6) (by decide) (by decide)) rfl ?_
                refine xi_virtual (mj := 65) (as := [.int a1, .int a2, .int a3, .int a4]) (st1 := [.int (-2)]) (lv0 := [(0, .ref 115), (1, .int a1), (2, .int a2), (3, .int a3), (4, .int a4)]) kc_196_1212 rfl rfl rfl rfl rfl ((eh1.2.1 115 (by decide)).trans (F 115 _ hl_115)) (Nat.le_of_ble_eq_true rfl) (hJ _ _ _ _ (by decide)) (xm_le ml_65 rfl) rfl ?_
                refine xi_aload_n (pc' := 1) (x := 115) kc_65_0 rfl rfl ?_
                refine xi_iconst (pc' := 2) (v := 0) kc_65_1 rfl rfl ?_
                refine xi_putfield (pc' := 5) (fs' := [.int 0, .int 0, .ref 116, .ref 117, .ref 118, .ref 119, .ref 120, .ref 121, .ref 122, .ref 123, .ref 124, .ref 125, .ref 126, .ref 127, .ref 128, .ref 129, .int 4, .ref 130, .int 0, .ref 131, .ref 132, .ref 133, .ref 134, .int 0, .ref 135, .ref 136, .ref 137, .ref 138, .ref 139, .ref 140, .ref 141, .ref 142, .int 0, .int 0, .int 0, .ref 143, .ref 144, .ref 145, .ref 146, .ref 147, .ref 148, .int 0, .ref 149, .ref 150, .ref 151, .int 0, .ref 152, .ref 153, .ref 154, .ref 155, .ref 156, .ref 157, .ref 158, .ref 159, .int 0, .ref 160, .int 0, .ref 161, .ref 162, .ref 163, .ref 164, .int 0, .ref 165, .ref 166]) kc_65_2 rfl rfl rfl ((eh1.2.1 115 (by decide)).trans (F 115 _ hl_115)) rfl rfl rfl (Nat.le_of_ble_eq_true rfl) rfl (fun hh2 eh2 => ?_)
                refine xi_iload_n (pc' := 6) (x := a1) kc_65_5 rfl rfl ?_
                refine xi_iconst (pc' := 7) (v := 0) kc_65_6 rfl rfl ?_
                refine xi_bipush (pc' := 9) (v := 23) kc_65_7 rfl rfl ?_
                refine xi_static (mj := 12) (as := [.int a1, .int 0, .int 23]) (st1 := []) (lv0 := [(0, .int a1), (1, .int 0), (2, .int 23)]) kc_65_9 rfl rfl (Nat.le_of_ble_eq_true rfl) rfl rfl (Nat.le_of_ble_eq_true rfl) (hJ _ _ _ _ (by decide)) (xm_le ml_12 rfl) rfl ?_
                refine xi_iload_n (pc' := 1) (x := a1) kc_12_0 rfl rfl ?_
                refine xi_iload_n (pc' := 2) (x := 0) kc_12_1 rfl rfl ?_
                refine xi_cmf (pc' := 5) kc_12_2 rfl (xc_lt_f (X := a1.toInt) (Y := 0) rfl (by decide) (by omega)) ?_
                refine xi_iload_n (pc' := 6) (x := a1) kc_12_5 rfl rfl ?_
                refine xi_iload_n (pc' := 7) (x := 23) kc_12_6 rfl rfl ?_
                refine xi_cmf (pc' := 10) kc_12_7 rfl (xc_gt_f (X := a1.toInt) (Y := 23) rfl (by decide) (by omega)) ?_
                refine xi_iconst (pc' := 11) (v := 1) kc_12_10 rfl rfl ?_
                refine xi_goto (pc' := 15) kc_12_11 rfl ?_
                refine xi_ireturn kc_12_15 mr_12 rfl ?_
                show xw J ov 99 65 (12, [(0, .ref 115), (1, .int a1), (2, .int a2), (3, .int a3), (4, .int a4)], [.int 1], hh2) _
                refine xi_iff (pc' := 15) kc_65_12 rfl rfl ?_
                refine xi_iload_n (pc' := 16) (x := a2) kc_65_15 rfl rfl ?_
                refine xi_iconst (pc' := 17) (v := 0) kc_65_16 rfl rfl ?_
                refine xi_iconst (pc' := 18) (v := 3) kc_65_17 rfl rfl ?_
                refine xi_static (mj := 12) (as := [.int a2, .int 0, .int 3]) (st1 := []) (lv0 := [(0, .int a2), (1, .int 0), (2, .int 3)]) kc_65_18 rfl rfl (Nat.le_of_ble_eq_true rfl) rfl rfl (Nat.le_of_ble_eq_true rfl) (hJ _ _ _ _ (by decide)) (xm_le ml_12 rfl) rfl ?_
                refine xi_iload_n (pc' := 1) (x := a2) kc_12_0 rfl rfl ?_
                refine xi_iload_n (pc' := 2) (x := 0) kc_12_1 rfl rfl ?_
                refine xi_cmf (pc' := 5) kc_12_2 rfl (xc_lt_f (X := a2.toInt) (Y := 0) rfl (by decide) (by omega)) ?_
                refine xi_iload_n (pc' := 6) (x := a2) kc_12_5 rfl rfl ?_
                refine xi_iload_n (pc' := 7) (x := 3) kc_12_6 rfl rfl ?_
                refine xi_cmf (pc' := 10) kc_12_7 rfl (xc_gt_f (X := a2.toInt) (Y := 3) rfl (by decide) (by omega)) ?_
                refine xi_iconst (pc' := 11) (v := 1) kc_12_10 rfl rfl ?_
                refine xi_goto (pc' := 15) kc_12_11 rfl ?_
                refine xi_ireturn kc_12_15 mr_12 rfl ?_
                show xw J ov 99 65 (21, [(0, .ref 115), (1, .int a1), (2, .int a2), (3, .int a3), (4, .int a4)], [.int 1], hh2) _
                refine xi_iff (pc' := 24) kc_65_21 rfl rfl ?_
                refine xi_iload_n (pc' := 25) (x := a3) kc_65_24 rfl rfl ?_
                refine xi_iconst (pc' := 26) (v := 0) kc_65_25 rfl rfl ?_
                refine xi_iconst (pc' := 27) (v := 5) kc_65_26 rfl rfl ?_
                refine xi_static (mj := 12) (as := [.int a3, .int 0, .int 5]) (st1 := []) (lv0 := [(0, .int a3), (1, .int 0), (2, .int 5)]) kc_65_27 rfl rfl (Nat.le_of_ble_eq_true rfl) rfl rfl (Nat.le_of_ble_eq_true rfl) (hJ _ _ _ _ (by decide)) (xm_le ml_12 rfl) rfl ?_
                refine xi_iload_n (pc' := 1) (x := a3) kc_12_0 rfl rfl ?_
                refine xi_iload_n (pc' := 2) (x := 0) kc_12_1 rfl rfl ?_
                refine xi_cmf (pc' := 5) kc_12_2 rfl (xc_lt_f (X := a3.toInt) (Y := 0) rfl (by decide) (by omega)) ?_
                refine xi_iload_n (pc' := 6) (x := a3) kc_12_5 rfl rfl ?_
                refine xi_iload_n (pc' := 7) (x := 5) kc_12_6 rfl rfl ?_
                refine xi_cmf (pc' := 10) kc_12_7 rfl (xc_gt_f (X := a3.toInt) (Y := 5) rfl (by decide) (by omega)) ?_
                refine xi_iconst (pc' := 11) (v := 1) kc_12_10 rfl rfl ?_
                refine xi_goto (pc' := 15) kc_12_11 rfl ?_
                refine xi_ireturn kc_12_15 mr_12 rfl ?_
                show xw J ov 99 65 (30, [(0, .ref 115), (1, .int a1), (2, .int a2), (3, .int a3), (4, .int a4)], [.int 1], hh2) _
                refine xi_ift (pc' := 39) kc_65_30 rfl rfl ?_
                refine xi_iload (pc' := 41) (x := a4) kc_65_39 rfl rfl ?_
                refine xi_iconst (pc' := 42) (v := 0) kc_65_41 rfl rfl ?_
                refine xi_iconst (pc' := 43) (v := 2) kc_65_42 rfl rfl ?_
                refine xi_static (mj := 12) (as := [.int a4, .int 0, .int 2]) (st1 := []) (lv0 := [(0, .int a4), (1, .int 0), (2, .int 2)]) kc_65_43 rfl rfl (Nat.le_of_ble_eq_true rfl) rfl rfl (Nat.le_of_ble_eq_true rfl) (hJ _ _ _ _ (by decide)) (xm_le ml_12 rfl) rfl ?_
                refine xi_iload_n (pc' := 1) (x := a4) kc_12_0 rfl rfl ?_
                refine xi_iload_n (pc' := 2) (x := 0) kc_12_1 rfl rfl ?_
                refine xi_cmt (pc' := 14) kc_12_2 rfl (xc_lt_t (X := a4.toInt) (Y := 0) rfl (by decide) (by omega)) ?_
                refine xi_iconst (pc' := 15) (v := 0) kc_12_14 rfl rfl ?_
                refine xi_ireturn kc_12_15 mr_12 rfl ?_
                show xw J ov 99 65 (46, [(0, .ref 115), (1, .int a1), (2, .int a2), (3, .int a3), (4, .int a4)], [.int 0], hh2) _
                refine xi_iff (pc' := 49) kc_65_46 rfl rfl ?_
                refine xi_aload_n (pc' := 50) (x := 115) kc_65_49 rfl rfl ?_
                refine xi_bipush (pc' := 52) (v := (-2)) kc_65_50 rfl rfl ?_
                refine xi_virtual (mj := 13) (as := [.int (-2)]) (st1 := []) (lv0 := [(0, .ref 115), (1, .int (-2))]) kc_65_52 rfl rfl rfl rfl rfl eh2.1 (Nat.le_of_ble_eq_true rfl) (hJ _ _ _ _ (by decide)) (xm_le ml_13 rfl) rfl ?_
                refine xi_aload_n (pc' := 1) (x := 115) kc_13_0 rfl rfl ?_
                refine xi_getfield (pc' := 4) (v := .ref 140) kc_13_1 rfl rfl rfl eh2.1 rfl ?_
                refine xi_iload_n (pc' := 5) (x := (-2)) kc_13_4 rfl rfl ?_
                refine xi_ineg (pc' := 6) (v := 2) kc_13_5 rfl rfl ?_
                refine xi_dup2 (pc' := 7) kc_13_6 rfl ⟨rfl, rfl⟩ ?_
                refine xi_iaload (pc' := 8) (v := 0) kc_13_7 rfl ((eh2.2.1 140 (by decide)).trans ((eh1.2.1 140 (by decide)).trans (F 140 _ hl_140))) (by decide) rfl (xi_in (n := 7) (by decide) (by decide)) rfl ?_
                refine xi_iconst (pc' := 9) (v := 1) kc_13_8 rfl rfl ?_
                refine xi_iadd (pc' := 10) (v := 1) kc_13_9 rfl rfl ?_
                refine xi_iastore (pc' := 11) (x' := [0, 0, 1, 0, 0, 0, 0]) kc_13_10 rfl ((eh2.2.1 140 (by decide)).trans ((eh1.2.1 140 (by decide)).trans (F 140 _ hl_140))) rfl (xi_in (n := 7) (by decide) (by decide)) rfl (fun hh3 eh3 => ?_)
                refine xi_iload_n (pc' := 12) (x := (-2)) kc_13_11 rfl rfl ?_
                refine xi_ireturn kc_13_12 mr_13 rfl ?_
                show xw J ov 99 65 (55, [(0, .ref 115), (1, .int a1), (2, .int a2), (3, .int a3), (4, .int a4)], [.int (-2)], hh3) _
                refine xi_ireturn kc_65_55 mr_65 rfl ?_
                show xw J ov 100 196 (1215, [(4, .int 0), (3, .ref 167), (2, .ref 115), (1, .ref 0), (0, .ref 1000000)], [.int (-2), .int (-2)], hh3) _
                refine xi_cmt (pc' := 1528) kc_196_1215 rfl rfl ?_
                refine xi_iinc (pc' := 1531) (x := 0) (v := 6) (lv' := [(4, .int 6), (3, .ref 167), (2, .ref 115), (1, .ref 0), (0, .ref 1000000)]) kc_196_1528 rfl rfl rfl rfl (xm_lt ml_196 rfl) ?_
                refine xi_goto (pc' := 23) kc_196_1531 rfl ?_
                refine xi_iload (pc' := 25) (x := 6) kc_196_23 rfl rfl ?_
                refine xi_aload_n (pc' := 26) (x := 1000000) kc_196_25 rfl rfl ?_
                refine xi_arraylength (pc' := 27) (n := 6) (v := 6) kc_196_26 rfl (xl_lenO (by decide) hov0 rfl) rfl ?_
                refine xi_bipush (pc' := 29) (v := 6) kc_196_27 rfl rfl ?_
                refine xi_isub (pc' := 30) (v := 0) kc_196_29 rfl rfl ?_
                refine xi_cmt (pc' := 1534) kc_196_30 rfl rfl ?_
                refine xi_iconst (pc' := 1535) (v := 1) kc_196_1534 rfl rfl ?_
                refine xi_ireturn kc_196_1535 mr_196 rfl ?_
                refine ⟨rfl, ?_, ?_⟩
                · rw [eh3.2.2.1, eh2.2.2.1, eh1.2.2.1]; exact hn0
                · rw [eh3.2.2.2, eh2.2.2.2, eh1.2.2.2]; exact hz0
              · refine xi_iff (pc' := 40) kc_168_37 rfl (xc_lt_f (X := a4.toInt) (Y := 0) rfl (by decide) (by omega)) ?_
                refine xi_iload (pc' := 42) (x := a4) kc_168_40 rfl rfl ?_
                refine xi_iconst (pc' := 43) (v := 2) kc_168_42 rfl rfl ?_
                by_cases c8 : a4.toInt ≤ 2
                · refine xi_cmt (pc' := 53) kc_168_43 rfl (xc_le_t (X := a4.toInt) (Y := 2) rfl (by decide) (by omega)) ?_
                  refine xi_aload_n (pc' := 54) (x := 0) kc_168_53 rfl rfl ?_
                  refine xi_getfield (pc' := 57) (v := .ref 80) kc_168_54 rfl rfl rfl (F 0 _ hl_0) rfl ?_
                  refine xi_iload_n (pc' := 58) (x := a1) kc_168_57 rfl rfl ?_
                  refine xi_iload_n (pc' := 59) (x := a2) kc_168_58 rfl rfl ?_
                  refine xi_iload_n (pc' := 60) (x := a3) kc_168_59 rfl rfl ?_
                  refine xi_iload (pc' := 62) (x := a4) kc_168_60 rfl rfl ?_
                  refine xi_virtual (mj := 169) (as := [.int a1, .int a2, .int a3, .int a4]) (st1 := []) (lv0 := [(0, .ref 80), (1, .int a1), (2, .int a2), (3, .int a3), (4, .int a4)]) kc_168_62 rfl rfl rfl rfl rfl (F 80 _ hl_80) (Nat.le_of_ble_eq_true rfl) (hJ _ _ _ _ (by decide)) (xm_le ml_169 rfl) rfl ?_
                  refine xi_iload_n (pc' := 1) (x := a1) kc_169_0 rfl rfl ?_
                  refine xi_iff (pc' := 4) kc_169_1 rfl (xc_lt_f (X := a1.toInt) (Y := 0) rfl (by decide) (by omega)) ?_
                  refine xi_iload_n (pc' := 5) (x := a1) kc_169_4 rfl rfl ?_
                  refine xi_bipush (pc' := 7) (v := 24) kc_169_5 rfl rfl ?_
                  refine xi_cmt (pc' := 12) kc_169_7 rfl (xc_lt_t (X := a1.toInt) (Y := 24) rfl (by decide) (by omega)) ?_
                  refine xi_aload_n (pc' := 13) (x := 80) kc_169_12 rfl rfl ?_
                  refine xi_getfield (pc' := 16) (v := .ref 83) kc_169_13 rfl rfl rfl (F 80 _ hl_80) rfl ?_
                  refine xi_iload_n (pc' := 17) (x := a1) kc_169_16 rfl rfl ?_
                  refine xi_iaload (pc' := 18) (v := 2) kc_169_17 rfl (F 83 _ hl_83) (by decide) rfl (xi_in (by omega) (by simp only [List.length_replicate]; omega)) (xa_rep (by omega) (by omega)) ?_
                  refine xi_istore (pc' := 20) (lv' := [(5, .int 2), (0, .ref 80), (1, .int a1), (2, .int a2), (3, .int a3), (4, .int a4)]) kc_169_18 rfl rfl (xm_lt ml_169 rfl) ?_
                  refine xi_aload_n (pc' := 21) (x := 80) kc_169_20 rfl rfl ?_
                  refine xi_getfield (pc' := 24) (v := .ref 81) kc_169_21 rfl rfl rfl (F 80 _ hl_80) rfl ?_
                  refine xi_iload_n (pc' := 25) (x := a1) kc_169_24 rfl rfl ?_
                  refine xi_iload_n (pc' := 26) (x := a2) kc_169_25 rfl rfl ?_
                  have lq10 : (List.replicate 24 0 : List Int32).length = 24 := by simp only [List.length_replicate, List.length_cons, List.length_nil, List.length_set]
                  obtain ⟨x9, hx9⟩ : ∃ q, (List.replicate 24 0 : List Int32).set (Int32.toNatClampNeg a1) (a2) = q := ⟨_, rfl⟩
                  have lx9 : x9.length = 24 := by rw [← hx9, List.length_set]; exact lq10
                  refine xi_iastore (pc' := 27) (x' := x9) kc_169_26 rfl (F 81 _ hl_81) rfl (xi_in (by omega) (by rw [lq10]; omega)) hx9 (fun hh1 eh1 => ?_)
                  refine xi_aload_n (pc' := 28) (x := 80) kc_169_27 rfl rfl ?_
                  refine xi_getfield (pc' := 31) (v := .ref 82) kc_169_28 rfl rfl rfl ((eh1.2.1 80 (by decide)).trans (F 80 _ hl_80)) rfl ?_
                  refine xi_iload_n (pc' := 32) (x := a1) kc_169_31 rfl rfl ?_
                  refine xi_iload_n (pc' := 33) (x := a3) kc_169_32 rfl rfl ?_
                  have lq12 : (List.replicate 24 0 : List Int32).length = 24 := by simp only [List.length_replicate, List.length_cons, List.length_nil, List.length_set]
                  obtain ⟨x11, hx11⟩ : ∃ q, (List.replicate 24 0 : List Int32).set (Int32.toNatClampNeg a1) (a3) = q := ⟨_, rfl⟩
                  have lx11 : x11.length = 24 := by rw [← hx11, List.length_set]; exact lq12
                  refine xi_iastore (pc' := 34) (x' := x11) kc_169_33 rfl ((eh1.2.1 82 (by decide)).trans (F 82 _ hl_82)) rfl (xi_in (by omega) (by rw [lq12]; omega)) hx11 (fun hh2 eh2 => ?_)
                  refine xi_aload_n (pc' := 35) (x := 80) kc_169_34 rfl rfl ?_
                  refine xi_getfield (pc' := 38) (v := .ref 83) kc_169_35 rfl rfl rfl ((eh2.2.1 80 (by decide)).trans ((eh1.2.1 80 (by decide)).trans (F 80 _ hl_80))) rfl ?_
                  refine xi_iload_n (pc' := 39) (x := a1) kc_169_38 rfl rfl ?_
                  refine xi_iload (pc' := 41) (x := a4) kc_169_39 rfl rfl ?_
                  have lq14 : (List.replicate 24 2 : List Int32).length = 24 := by simp only [List.length_replicate, List.length_cons, List.length_nil, List.length_set]
                  obtain ⟨x13, hx13⟩ : ∃ q, (List.replicate 24 2 : List Int32).set (Int32.toNatClampNeg a1) (a4) = q := ⟨_, rfl⟩
                  have lx13 : x13.length = 24 := by rw [← hx13, List.length_set]; exact lq14
                  refine xi_iastore (pc' := 42) (x' := x13) kc_169_41 rfl ((eh2.2.1 83 (by decide)).trans ((eh1.2.1 83 (by decide)).trans (F 83 _ hl_83))) rfl (xi_in (by omega) (by rw [lq14]; omega)) hx13 (fun hh3 eh3 => ?_)
                  refine xi_iload (pc' := 44) (x := 2) kc_169_42 rfl rfl ?_
                  refine xi_ireturn kc_169_44 mr_169 rfl ?_
                  show xw J ov 99 168 (65, [(0, .ref 0), (1, .int a1), (2, .int a2), (3, .int a3), (4, .int a4)], [.int 2], hh3) _
                  refine xi_ireturn kc_168_65 mr_168 rfl ?_
                  show xw J ov 100 196 (1187, [(4, .int 0), (3, .ref 167), (2, .ref 115), (1, .ref 0), (0, .ref 1000000)], [.int 2], hh3) _
                  refine xi_aload_n (pc' := 1188) (x := 115) kc_196_1187 rfl rfl ?_
                  refine xi_aload_n (pc' := 1189) (x := 1000000) kc_196_1188 rfl rfl ?_
                  refine xi_iload (pc' := 1191) (x := 0) kc_196_1189 rfl rfl ?_
                  refine xi_iconst (pc' := 1192) (v := 1) kc_196_1191 rfl rfl ?_
                  refine xi_iadd (pc' := 1193) (v := 1) kc_196_1192 rfl rfl ?_
                  refine xi_ialoadO (pc' := 1194) (v := a1) kc_196_1193 rfl (by decide) hov0 (xi_in (n := 6) (by decide) (by decide)) rfl ?_
                  refine xi_aload_n (pc' := 1195) (x := 1000000) kc_196_1194 rfl rfl ?_
                  refine xi_iload (pc' := 1197) (x := 0) kc_196_1195 rfl rfl ?_
                  refine xi_iconst (pc' := 1198) (v := 2) kc_196_1197 rfl rfl ?_
                  refine xi_iadd (pc' := 1199) (v := 2) kc_196_1198 rfl rfl ?_
                  refine xi_ialoadO (pc' := 1200) (v := a2) kc_196_1199 rfl (by decide) hov0 (xi_in (n := 6) (by decide) (by decide)) rfl ?_
                  refine xi_aload_n (pc' := 1201) (x := 1000000) kc_196_1200 rfl rfl ?_
                  refine xi_iload (pc' := 1203) (x := 0) kc_196_1201 rfl rfl ?_
                  refine xi_iconst (pc' := 1204) (v := 3) kc_196_1203 rfl rfl ?_
                  refine xi_iadd (pc' := 1205) (v := 3) kc_196_1204 rfl rfl ?_
                  refine xi_ialoadO (pc' := 1206) (v := a3) kc_196_1205 rfl (by decide) hov0 (xi_in (n := 6) (by decide) (by decide)) rfl ?_
                  refine xi_aload_n (pc' := 1207) (x := 1000000) kc_196_1206 rfl rfl ?_
                  refine xi_iload (pc' := 1209) (x := 0) kc_196_1207 rfl rfl ?_
                  refine xi_iconst (pc' := 1210) (v := 4) kc_196_1209 rfl rfl ?_
                  refine xi_iadd (pc' := 1211) (v := 4) kc_196_1210 rfl rfl ?_
                  refine xi_ialoadO (pc' := 1212) (v := a4) kc_196_1211 rfl (by decide) hov0 (xi_in (n := 6) (by decide) (by decide)) rfl ?_
                  refine xi_virtual (mj := 65) (as := [.int a1, .int a2, .int a3, .int a4]) (st1 := [.int 2]) (lv0 := [(0, .ref 115), (1, .int a1), (2, .int a2), (3, .int a3), (4, .int a4)]) kc_196_1212 rfl rfl rfl rfl rfl ((eh3.2.1 115 (by decide)).trans ((eh2.2.1 115 (by decide)).trans ((eh1.2.1 115 (by decide)).trans (F 115 _ hl_115)))) (Nat.le_of_ble_eq_true rfl) (hJ _ _ _ _ (by decide)) (xm_le ml_65 rfl) rfl ?_
                  refine xi_aload_n (pc' := 1) (x := 115) kc_65_0 rfl rfl ?_
                  refine xi_iconst (pc' := 2) (v := 0) kc_65_1 rfl rfl ?_
                  refine xi_putfield (pc' := 5) (fs' := [.int 0, .int 0, .ref 116, .ref 117, .ref 118, .ref 119, .ref 120, .ref 121, .ref 122, .ref 123, .ref 124, .ref 125, .ref 126, .ref 127, .ref 128, .ref 129, .int 4, .ref 130, .int 0, .ref 131, .ref 132, .ref 133, .ref 134, .int 0, .ref 135, .ref 136, .ref 137, .ref 138, .ref 139, .ref 140, .ref 141, .ref 142, .int 0, .int 0, .int 0, .ref 143, .ref 144, .ref 145, .ref 146, .ref 147, .ref 148, .int 0, .ref 149, .ref 150, .ref 151, .int 0, .ref 152, .ref 153, .ref 154, .ref 155, .ref 156, .ref 157, .ref 158, .ref 159, .int 0, .ref 160, .int 0, .ref 161, .ref 162, .ref 163, .ref 164, .int 0, .ref 165, .ref 166]) kc_65_2 rfl rfl rfl ((eh3.2.1 115 (by decide)).trans ((eh2.2.1 115 (by decide)).trans ((eh1.2.1 115 (by decide)).trans (F 115 _ hl_115)))) rfl rfl rfl (Nat.le_of_ble_eq_true rfl) rfl (fun hh4 eh4 => ?_)
                  refine xi_iload_n (pc' := 6) (x := a1) kc_65_5 rfl rfl ?_
                  refine xi_iconst (pc' := 7) (v := 0) kc_65_6 rfl rfl ?_
                  refine xi_bipush (pc' := 9) (v := 23) kc_65_7 rfl rfl ?_
                  refine xi_static (mj := 12) (as := [.int a1, .int 0, .int 23]) (st1 := []) (lv0 := [(0, .int a1), (1, .int 0), (2, .int 23)]) kc_65_9 rfl rfl (Nat.le_of_ble_eq_true rfl) rfl rfl (Nat.le_of_ble_eq_true rfl) (hJ _ _ _ _ (by decide)) (xm_le ml_12 rfl) rfl ?_
                  refine xi_iload_n (pc' := 1) (x := a1) kc_12_0 rfl rfl ?_
                  refine xi_iload_n (pc' := 2) (x := 0) kc_12_1 rfl rfl ?_
                  refine xi_cmf (pc' := 5) kc_12_2 rfl (xc_lt_f (X := a1.toInt) (Y := 0) rfl (by decide) (by omega)) ?_
                  refine xi_iload_n (pc' := 6) (x := a1) kc_12_5 rfl rfl ?_
                  refine xi_iload_n (pc' := 7) (x := 23) kc_12_6 rfl rfl ?_
                  refine xi_cmf (pc' := 10) kc_12_7 rfl (xc_gt_f (X := a1.toInt) (Y := 23) rfl (by decide) (by omega)) ?_
                  refine xi_iconst (pc' := 11) (v := 1) kc_12_10 rfl rfl ?_
                  refine xi_goto (pc' := 15) kc_12_11 rfl ?_
                  refine xi_ireturn kc_12_15 mr_12 rfl ?_
                  show xw J ov 99 65 (12, [(0, .ref 115), (1, .int a1), (2, .int a2), (3, .int a3), (4, .int a4)], [.int 1], hh4) _
                  refine xi_iff (pc' := 15) kc_65_12 rfl rfl ?_
                  refine xi_iload_n (pc' := 16) (x := a2) kc_65_15 rfl rfl ?_
                  refine xi_iconst (pc' := 17) (v := 0) kc_65_16 rfl rfl ?_
                  refine xi_iconst (pc' := 18) (v := 3) kc_65_17 rfl rfl ?_
                  refine xi_static (mj := 12) (as := [.int a2, .int 0, .int 3]) (st1 := []) (lv0 := [(0, .int a2), (1, .int 0), (2, .int 3)]) kc_65_18 rfl rfl (Nat.le_of_ble_eq_true rfl) rfl rfl (Nat.le_of_ble_eq_true rfl) (hJ _ _ _ _ (by decide)) (xm_le ml_12 rfl) rfl ?_
                  refine xi_iload_n (pc' := 1) (x := a2) kc_12_0 rfl rfl ?_
                  refine xi_iload_n (pc' := 2) (x := 0) kc_12_1 rfl rfl ?_
                  refine xi_cmf (pc' := 5) kc_12_2 rfl (xc_lt_f (X := a2.toInt) (Y := 0) rfl (by decide) (by omega)) ?_
                  refine xi_iload_n (pc' := 6) (x := a2) kc_12_5 rfl rfl ?_
                  refine xi_iload_n (pc' := 7) (x := 3) kc_12_6 rfl rfl ?_
                  refine xi_cmf (pc' := 10) kc_12_7 rfl (xc_gt_f (X := a2.toInt) (Y := 3) rfl (by decide) (by omega)) ?_
                  refine xi_iconst (pc' := 11) (v := 1) kc_12_10 rfl rfl ?_
                  refine xi_goto (pc' := 15) kc_12_11 rfl ?_
                  refine xi_ireturn kc_12_15 mr_12 rfl ?_
                  show xw J ov 99 65 (21, [(0, .ref 115), (1, .int a1), (2, .int a2), (3, .int a3), (4, .int a4)], [.int 1], hh4) _
                  refine xi_iff (pc' := 24) kc_65_21 rfl rfl ?_
                  refine xi_iload_n (pc' := 25) (x := a3) kc_65_24 rfl rfl ?_
                  refine xi_iconst (pc' := 26) (v := 0) kc_65_25 rfl rfl ?_
                  refine xi_iconst (pc' := 27) (v := 5) kc_65_26 rfl rfl ?_
                  refine xi_static (mj := 12) (as := [.int a3, .int 0, .int 5]) (st1 := []) (lv0 := [(0, .int a3), (1, .int 0), (2, .int 5)]) kc_65_27 rfl rfl (Nat.le_of_ble_eq_true rfl) rfl rfl (Nat.le_of_ble_eq_true rfl) (hJ _ _ _ _ (by decide)) (xm_le ml_12 rfl) rfl ?_
                  refine xi_iload_n (pc' := 1) (x := a3) kc_12_0 rfl rfl ?_
                  refine xi_iload_n (pc' := 2) (x := 0) kc_12_1 rfl rfl ?_
                  refine xi_cmf (pc' := 5) kc_12_2 rfl (xc_lt_f (X := a3.toInt) (Y := 0) rfl (by decide) (by omega)) ?_
                  refine xi_iload_n (pc' := 6) (x := a3) kc_12_5 rfl rfl ?_
                  refine xi_iload_n (pc' := 7) (x := 5) kc_12_6 rfl rfl ?_
                  refine xi_cmf (pc' := 10) kc_12_7 rfl (xc_gt_f (X := a3.toInt) (Y := 5) rfl (by decide) (by omega)) ?_
                  refine xi_iconst (pc' := 11) (v := 1) kc_12_10 rfl rfl ?_
                  refine xi_goto (pc' := 15) kc_12_11 rfl ?_
                  refine xi_ireturn kc_12_15 mr_12 rfl ?_
                  show xw J ov 99 65 (30, [(0, .ref 115), (1, .int a1), (2, .int a2), (3, .int a3), (4, .int a4)], [.int 1], hh4) _
                  refine xi_ift (pc' := 39) kc_65_30 rfl rfl ?_
                  refine xi_iload (pc' := 41) (x := a4) kc_65_39 rfl rfl ?_
                  refine xi_iconst (pc' := 42) (v := 0) kc_65_41 rfl rfl ?_
                  refine xi_iconst (pc' := 43) (v := 2) kc_65_42 rfl rfl ?_
                  refine xi_static (mj := 12) (as := [.int a4, .int 0, .int 2]) (st1 := []) (lv0 := [(0, .int a4), (1, .int 0), (2, .int 2)]) kc_65_43 rfl rfl (Nat.le_of_ble_eq_true rfl) rfl rfl (Nat.le_of_ble_eq_true rfl) (hJ _ _ _ _ (by decide)) (xm_le ml_12 rfl) rfl ?_
                  refine xi_iload_n (pc' := 1) (x := a4) kc_12_0 rfl rfl ?_
                  refine xi_iload_n (pc' := 2) (x := 0) kc_12_1 rfl rfl ?_
                  refine xi_cmf (pc' := 5) kc_12_2 rfl (xc_lt_f (X := a4.toInt) (Y := 0) rfl (by decide) (by omega)) ?_
                  refine xi_iload_n (pc' := 6) (x := a4) kc_12_5 rfl rfl ?_
                  refine xi_iload_n (pc' := 7) (x := 2) kc_12_6 rfl rfl ?_
                  refine xi_cmf (pc' := 10) kc_12_7 rfl (xc_gt_f (X := a4.toInt) (Y := 2) rfl (by decide) (by omega)) ?_
                  refine xi_iconst (pc' := 11) (v := 1) kc_12_10 rfl rfl ?_
                  refine xi_goto (pc' := 15) kc_12_11 rfl ?_
                  refine xi_ireturn kc_12_15 mr_12 rfl ?_
                  show xw J ov 99 65 (46, [(0, .ref 115), (1, .int a1), (2, .int a2), (3, .int a3), (4, .int a4)], [.int 1], hh4) _
                  refine xi_ift (pc' := 56) kc_65_46 rfl rfl ?_
                  refine xi_aload_n (pc' := 57) (x := 115) kc_65_56 rfl rfl ?_
                  refine xi_getfield (pc' := 60) (v := .ref 158) kc_65_57 rfl rfl rfl eh4.1 rfl ?_
                  refine xi_iload_n (pc' := 61) (x := a1) kc_65_60 rfl rfl ?_
                  refine xi_iaload (pc' := 62) (v := 2) kc_65_61 rfl ((eh4.2.1 158 (by decide)).trans ((eh3.2.1 158 (by decide)).trans ((eh2.2.1 158 (by decide)).trans ((eh1.2.1 158 (by decide)).trans (F 158 _ hl_158))))) (by decide) rfl (xi_in (by omega) (by simp only [List.length_replicate]; omega)) (xa_rep (by omega) (by omega)) ?_
                  refine xi_istore (pc' := 64) (lv' := [(5, .int 2), (0, .ref 115), (1, .int a1), (2, .int a2), (3, .int a3), (4, .int a4)]) kc_65_62 rfl rfl (xm_lt ml_65 rfl) ?_
                  refine xi_aload_n (pc' := 65) (x := 115) kc_65_64 rfl rfl ?_
                  refine xi_getfield (pc' := 68) (v := .ref 156) kc_65_65 rfl rfl rfl eh4.1 rfl ?_
                  refine xi_iload_n (pc' := 69) (x := a1) kc_65_68 rfl rfl ?_
                  refine xi_iload_n (pc' := 70) (x := a2) kc_65_69 rfl rfl ?_
                  have lq16 : (List.replicate 24 0 : List Int32).length = 24 := by simp only [List.length_replicate, List.length_cons, List.length_nil, List.length_set]
                  obtain ⟨x15, hx15⟩ : ∃ q, (List.replicate 24 0 : List Int32).set (Int32.toNatClampNeg a1) (a2) = q := ⟨_, rfl⟩
                  have lx15 : x15.length = 24 := by rw [← hx15, List.length_set]; exact lq16
                  refine xi_iastore (pc' := 71) (x' := x15) kc_65_70 rfl ((eh4.2.1 156 (by decide)).trans ((eh3.2.1 156 (by decide)).trans ((eh2.2.1 156 (by decide)).trans ((eh1.2.1 156 (by decide)).trans (F 156 _ hl_156))))) rfl (xi_in (by omega) (by rw [lq16]; omega)) hx15 (fun hh5 eh5 => ?_)
                  refine xi_aload_n (pc' := 72) (x := 115) kc_65_71 rfl rfl ?_
                  refine xi_getfield (pc' := 75) (v := .ref 157) kc_65_72 rfl rfl rfl ((eh5.2.1 115 (by decide)).trans eh4.1) rfl ?_
                  refine xi_iload_n (pc' := 76) (x := a1) kc_65_75 rfl rfl ?_
                  refine xi_iload_n (pc' := 77) (x := a3) kc_65_76 rfl rfl ?_
                  have lq18 : (List.replicate 24 0 : List Int32).length = 24 := by simp only [List.length_replicate, List.length_cons, List.length_nil, List.length_set]
                  obtain ⟨x17, hx17⟩ : ∃ q, (List.replicate 24 0 : List Int32).set (Int32.toNatClampNeg a1) (a3) = q := ⟨_, rfl⟩
                  have lx17 : x17.length = 24 := by rw [← hx17, List.length_set]; exact lq18
                  refine xi_iastore (pc' := 78) (x' := x17) kc_65_77 rfl ((eh5.2.1 157 (by decide)).trans ((eh4.2.1 157 (by decide)).trans ((eh3.2.1 157 (by decide)).trans ((eh2.2.1 157 (by decide)).trans ((eh1.2.1 157 (by decide)).trans (F 157 _ hl_157)))))) rfl (xi_in (by omega) (by rw [lq18]; omega)) hx17 (fun hh6 eh6 => ?_)
                  refine xi_aload_n (pc' := 79) (x := 115) kc_65_78 rfl rfl ?_
                  refine xi_getfield (pc' := 82) (v := .ref 158) kc_65_79 rfl rfl rfl ((eh6.2.1 115 (by decide)).trans ((eh5.2.1 115 (by decide)).trans eh4.1)) rfl ?_
                  refine xi_iload_n (pc' := 83) (x := a1) kc_65_82 rfl rfl ?_
                  refine xi_iload (pc' := 85) (x := a4) kc_65_83 rfl rfl ?_
                  have lq20 : (List.replicate 24 2 : List Int32).length = 24 := by simp only [List.length_replicate, List.length_cons, List.length_nil, List.length_set]
                  obtain ⟨x19, hx19⟩ : ∃ q, (List.replicate 24 2 : List Int32).set (Int32.toNatClampNeg a1) (a4) = q := ⟨_, rfl⟩
                  have lx19 : x19.length = 24 := by rw [← hx19, List.length_set]; exact lq20
                  refine xi_iastore (pc' := 86) (x' := x19) kc_65_85 rfl ((eh6.2.1 158 (by decide)).trans ((eh5.2.1 158 (by decide)).trans ((eh4.2.1 158 (by decide)).trans ((eh3.2.1 158 (by decide)).trans ((eh2.2.1 158 (by decide)).trans ((eh1.2.1 158 (by decide)).trans (F 158 _ hl_158))))))) rfl (xi_in (by omega) (by rw [lq20]; omega)) hx19 (fun hh7 eh7 => ?_)
                  refine xi_iload (pc' := 88) (x := 2) kc_65_86 rfl rfl ?_
                  refine xi_ireturn kc_65_88 mr_65 rfl ?_
                  show xw J ov 100 196 (1215, [(4, .int 0), (3, .ref 167), (2, .ref 115), (1, .ref 0), (0, .ref 1000000)], [.int 2, .int 2], hh7) _
                  refine xi_cmt (pc' := 1528) kc_196_1215 rfl rfl ?_
                  refine xi_iinc (pc' := 1531) (x := 0) (v := 6) (lv' := [(4, .int 6), (3, .ref 167), (2, .ref 115), (1, .ref 0), (0, .ref 1000000)]) kc_196_1528 rfl rfl rfl rfl (xm_lt ml_196 rfl) ?_
                  refine xi_goto (pc' := 23) kc_196_1531 rfl ?_
                  refine xi_iload (pc' := 25) (x := 6) kc_196_23 rfl rfl ?_
                  refine xi_aload_n (pc' := 26) (x := 1000000) kc_196_25 rfl rfl ?_
                  refine xi_arraylength (pc' := 27) (n := 6) (v := 6) kc_196_26 rfl (xl_lenO (by decide) hov0 rfl) rfl ?_
                  refine xi_bipush (pc' := 29) (v := 6) kc_196_27 rfl rfl ?_
                  refine xi_isub (pc' := 30) (v := 0) kc_196_29 rfl rfl ?_
                  refine xi_cmt (pc' := 1534) kc_196_30 rfl rfl ?_
                  refine xi_iconst (pc' := 1535) (v := 1) kc_196_1534 rfl rfl ?_
                  refine xi_ireturn kc_196_1535 mr_196 rfl ?_
                  refine ⟨rfl, ?_, ?_⟩
                  · rw [eh7.2.2.1, eh6.2.2.1, eh5.2.2.1, eh4.2.2.1, eh3.2.2.1, eh2.2.2.1, eh1.2.2.1]; exact hn0
                  · rw [eh7.2.2.2, eh6.2.2.2, eh5.2.2.2, eh4.2.2.2, eh3.2.2.2, eh2.2.2.2, eh1.2.2.2]; exact hz0
                · refine xi_cmf (pc' := 46) kc_168_43 rfl (xc_le_f (X := a4.toInt) (Y := 2) rfl (by decide) (by omega)) ?_
                  refine xi_aload_n (pc' := 47) (x := 0) kc_168_46 rfl rfl ?_
                  refine xi_bipush (pc' := 49) (v := (-2)) kc_168_47 rfl rfl ?_
                  refine xi_virtual (mj := 91) (as := [.int (-2)]) (st1 := []) (lv0 := [(0, .ref 0), (1, .int (-2))]) kc_168_49 rfl rfl rfl rfl rfl (F 0 _ hl_0) (Nat.le_of_ble_eq_true rfl) (hJ _ _ _ _ (by decide)) (xm_le ml_91 rfl) rfl ?_
                  refine xi_iload_n (pc' := 1) (x := (-2)) kc_91_0 rfl rfl ?_
                  refine xi_ineg (pc' := 2) (v := 2) kc_91_1 rfl rfl ?_
                  refine xi_istore_n (pc' := 3) (lv' := [(2, .int 2), (0, .ref 0), (1, .int (-2))]) kc_91_2 rfl rfl (xm_lt ml_91 rfl) ?_
                  refine xi_iload_n (pc' := 4) (x := 2) kc_91_3 rfl rfl ?_
                  refine xi_iff (pc' := 7) kc_91_4 rfl rfl ?_
                  refine xi_iload_n (pc' := 8) (x := 2) kc_91_7 rfl rfl ?_
                  refine xi_aload_n (pc' := 9) (x := 0) kc_91_8 rfl rfl ?_
                  refine xi_getfield (pc' := 12) (v := .ref 94) kc_91_9 rfl rfl rfl (F 0 _ hl_0) rfl ?_
                  refine xi_arraylength (pc' := 13) (n := 7) (v := 7) kc_91_12 rfl (xl_lenI (by decide) (by decide) (F 94 _ hl_94) (by simp only [List.length_replicate, List.length_cons, List.length_nil])) rfl ?_
                  refine xi_cmf (pc' := 16) kc_91_13 rfl rfl ?_
                  refine xi_aload_n (pc' := 17) (x := 0) kc_91_16 rfl rfl ?_
                  refine xi_getfield (pc' := 20) (v := .ref 94) kc_91_17 rfl rfl rfl (F 0 _ hl_0) rfl ?_
                  refine xi_iload_n (pc' := 21) (x := 2) kc_91_20 rfl rfl ?_
                  refine xi_dup2 (pc' := 22) kc_91_21 rfl ⟨rfl, rfl⟩ ?_
                  refine xi_iaload (pc' := 23) (v := 0) kc_91_22 rfl (F 94 _ hl_94) (by decide) rfl (xi_in (n := 7) (by decide) (by decide)) rfl ?_
                  refine xi_iconst (pc' := 24) (v := 1) kc_91_23 rfl rfl ?_
                  refine xi_iadd (pc' := 25) (v := 1) kc_91_24 rfl rfl ?_
                  refine xi_iastore (pc' := 26) (x' := [0, 0, 1, 0, 0, 0, 0]) kc_91_25 rfl (F 94 _ hl_94) rfl (xi_in (n := 7) (by decide) (by decide)) rfl (fun hh1 eh1 => ?_)
                  refine xi_iload_n (pc' := 27) (x := (-2)) kc_91_26 rfl rfl ?_
                  refine xi_ireturn kc_91_27 mr_91 rfl ?_
                  show xw J ov 99 168 (52, [(0, .ref 0), (1, .int a1), (2, .int a2), (3, .int a3), (4, .int a4)], [.int (-2)], hh1) _
                  refine xi_ireturn kc_168_52 mr_168 rfl ?_
                  show xw J ov 100 196 (1187, [(4, .int 0), (3, .ref 167), (2, .ref 115), (1, .ref 0), (0, .ref 1000000)], [.int (-2)], hh1) _
                  refine xi_aload_n (pc' := 1188) (x := 115) kc_196_1187 rfl rfl ?_
                  refine xi_aload_n (pc' := 1189) (x := 1000000) kc_196_1188 rfl rfl ?_
                  refine xi_iload (pc' := 1191) (x := 0) kc_196_1189 rfl rfl ?_
                  refine xi_iconst (pc' := 1192) (v := 1) kc_196_1191 rfl rfl ?_
                  refine xi_iadd (pc' := 1193) (v := 1) kc_196_1192 rfl rfl ?_
                  refine xi_ialoadO (pc' := 1194) (v := a1) kc_196_1193 rfl (by decide) hov0 (xi_in (n := 6) (by decide) (by decide)) rfl ?_
                  refine xi_aload_n (pc' := 1195) (x := 1000000) kc_196_1194 rfl rfl ?_
                  refine xi_iload (pc' := 1197) (x := 0) kc_196_1195 rfl rfl ?_
                  refine xi_iconst (pc' := 1198) (v := 2) kc_196_1197 rfl rfl ?_
                  refine xi_iadd (pc' := 1199) (v := 2) kc_196_1198 rfl rfl ?_
                  refine xi_ialoadO (pc' := 1200) (v := a2) kc_196_1199 rfl (by decide) hov0 (xi_in (n := 6) (by decide) (by decide)) rfl ?_
                  refine xi_aload_n (pc' := 1201) (x := 1000000) kc_196_1200 rfl rfl ?_
                  refine xi_iload (pc' := 1203) (x := 0) kc_196_1201 rfl rfl ?_
                  refine xi_iconst (pc' := 1204) (v := 3) kc_196_1203 rfl rfl ?_
                  refine xi_iadd (pc' := 1205) (v := 3) kc_196_1204 rfl rfl ?_
                  refine xi_ialoadO (pc' := 1206) (v := a3) kc_196_1205 rfl (by decide) hov0 (xi_in (n := 6) (by decide) (by decide)) rfl ?_
                  refine xi_aload_n (pc' := 1207) (x := 1000000) kc_196_1206 rfl rfl ?_
                  refine xi_iload (pc' := 1209) (x := 0) kc_196_1207 rfl rfl ?_
                  refine xi_iconst (pc' := 1210) (v := 4) kc_196_1209 rfl rfl ?_
                  refine xi_iadd (pc' := 1211) (v := 4) kc_196_1210 rfl rfl ?_
                  refine xi_ialoadO (pc' := 1212) (v := a4) kc_196_1211 rfl (by decide) hov0 (xi_in (n := 6) (by decide) (by decide)) rfl ?_
                  refine xi_virtual (mj := 65) (as := [.int a1, .int a2, .int a3, .int a4]) (st1 := [.int (-2)]) (lv0 := [(0, .ref 115), (1, .int a1), (2, .int a2), (3, .int a3), (4, .int a4)]) kc_196_1212 rfl rfl rfl rfl rfl ((eh1.2.1 115 (by decide)).trans (F 115 _ hl_115)) (Nat.le_of_ble_eq_true rfl) (hJ _ _ _ _ (by decide)) (xm_le ml_65 rfl) rfl ?_
                  refine xi_aload_n (pc' := 1) (x := 115) kc_65_0 rfl rfl ?_
                  refine xi_iconst (pc' := 2) (v := 0) kc_65_1 rfl rfl ?_
                  refine xi_putfield (pc' := 5) (fs' := [.int 0, .int 0, .ref 116, .ref 117, .ref 118, .ref 119, .ref 120, .ref 121, .ref 122, .ref 123, .ref 124, .ref 125, .ref 126, .ref 127, .ref 128, .ref 129, .int 4, .ref 130, .int 0, .ref 131, .ref 132, .ref 133, .ref 134, .int 0, .ref 135, .ref 136, .ref 137, .ref 138, .ref 139, .ref 140, .ref 141, .ref 142, .int 0, .int 0, .int 0, .ref 143, .ref 144, .ref 145, .ref 146, .ref 147, .ref 148, .int 0, .ref 149, .ref 150, .ref 151, .int 0, .ref 152, .ref 153, .ref 154, .ref 155, .ref 156, .ref 157, .ref 158, .ref 159, .int 0, .ref 160, .int 0, .ref 161, .ref 162, .ref 163, .ref 164, .int 0, .ref 165, .ref 166]) kc_65_2 rfl rfl rfl ((eh1.2.1 115 (by decide)).trans (F 115 _ hl_115)) rfl rfl rfl (Nat.le_of_ble_eq_true rfl) rfl (fun hh2 eh2 => ?_)
                  refine xi_iload_n (pc' := 6) (x := a1) kc_65_5 rfl rfl ?_
                  refine xi_iconst (pc' := 7) (v := 0) kc_65_6 rfl rfl ?_
                  refine xi_bipush (pc' := 9) (v := 23) kc_65_7 rfl rfl ?_
                  refine xi_static (mj := 12) (as := [.int a1, .int 0, .int 23]) (st1 := []) (lv0 := [(0, .int a1), (1, .int 0), (2, .int 23)]) kc_65_9 rfl rfl (Nat.le_of_ble_eq_true rfl) rfl rfl (Nat.le_of_ble_eq_true rfl) (hJ _ _ _ _ (by decide)) (xm_le ml_12 rfl) rfl ?_
                  refine xi_iload_n (pc' := 1) (x := a1) kc_12_0 rfl rfl ?_
                  refine xi_iload_n (pc' := 2) (x := 0) kc_12_1 rfl rfl ?_
                  refine xi_cmf (pc' := 5) kc_12_2 rfl (xc_lt_f (X := a1.toInt) (Y := 0) rfl (by decide) (by omega)) ?_
                  refine xi_iload_n (pc' := 6) (x := a1) kc_12_5 rfl rfl ?_
                  refine xi_iload_n (pc' := 7) (x := 23) kc_12_6 rfl rfl ?_
                  refine xi_cmf (pc' := 10) kc_12_7 rfl (xc_gt_f (X := a1.toInt) (Y := 23) rfl (by decide) (by omega)) ?_
                  refine xi_iconst (pc' := 11) (v := 1) kc_12_10 rfl rfl ?_
                  refine xi_goto (pc' := 15) kc_12_11 rfl ?_
                  refine xi_ireturn kc_12_15 mr_12 rfl ?_
                  show xw J ov 99 65 (12, [(0, .ref 115), (1, .int a1), (2, .int a2), (3, .int a3), (4, .int a4)], [.int 1], hh2) _
                  refine xi_iff (pc' := 15) kc_65_12 rfl rfl ?_
                  refine xi_iload_n (pc' := 16) (x := a2) kc_65_15 rfl rfl ?_
                  refine xi_iconst (pc' := 17) (v := 0) kc_65_16 rfl rfl ?_
                  refine xi_iconst (pc' := 18) (v := 3) kc_65_17 rfl rfl ?_
                  refine xi_static (mj := 12) (as := [.int a2, .int 0, .int 3]) (st1 := []) (lv0 := [(0, .int a2), (1, .int 0), (2, .int 3)]) kc_65_18 rfl rfl (Nat.le_of_ble_eq_true rfl) rfl rfl (Nat.le_of_ble_eq_true rfl) (hJ _ _ _ _ (by decide)) (xm_le ml_12 rfl) rfl ?_
                  refine xi_iload_n (pc' := 1) (x := a2) kc_12_0 rfl rfl ?_
                  refine xi_iload_n (pc' := 2) (x := 0) kc_12_1 rfl rfl ?_
                  refine xi_cmf (pc' := 5) kc_12_2 rfl (xc_lt_f (X := a2.toInt) (Y := 0) rfl (by decide) (by omega)) ?_
                  refine xi_iload_n (pc' := 6) (x := a2) kc_12_5 rfl rfl ?_
                  refine xi_iload_n (pc' := 7) (x := 3) kc_12_6 rfl rfl ?_
                  refine xi_cmf (pc' := 10) kc_12_7 rfl (xc_gt_f (X := a2.toInt) (Y := 3) rfl (by decide) (by omega)) ?_
                  refine xi_iconst (pc' := 11) (v := 1) kc_12_10 rfl rfl ?_
                  refine xi_goto (pc' := 15) kc_12_11 rfl ?_
                  refine xi_ireturn kc_12_15 mr_12 rfl ?_
                  show xw J ov 99 65 (21, [(0, .ref 115), (1, .int a1), (2, .int a2), (3, .int a3), (4, .int a4)], [.int 1], hh2) _
                  refine xi_iff (pc' := 24) kc_65_21 rfl rfl ?_
                  refine xi_iload_n (pc' := 25) (x := a3) kc_65_24 rfl rfl ?_
                  refine xi_iconst (pc' := 26) (v := 0) kc_65_25 rfl rfl ?_
                  refine xi_iconst (pc' := 27) (v := 5) kc_65_26 rfl rfl ?_
                  refine xi_static (mj := 12) (as := [.int a3, .int 0, .int 5]) (st1 := []) (lv0 := [(0, .int a3), (1, .int 0), (2, .int 5)]) kc_65_27 rfl rfl (Nat.le_of_ble_eq_true rfl) rfl rfl (Nat.le_of_ble_eq_true rfl) (hJ _ _ _ _ (by decide)) (xm_le ml_12 rfl) rfl ?_
                  refine xi_iload_n (pc' := 1) (x := a3) kc_12_0 rfl rfl ?_
                  refine xi_iload_n (pc' := 2) (x := 0) kc_12_1 rfl rfl ?_
                  refine xi_cmf (pc' := 5) kc_12_2 rfl (xc_lt_f (X := a3.toInt) (Y := 0) rfl (by decide) (by omega)) ?_
                  refine xi_iload_n (pc' := 6) (x := a3) kc_12_5 rfl rfl ?_
                  refine xi_iload_n (pc' := 7) (x := 5) kc_12_6 rfl rfl ?_
                  refine xi_cmf (pc' := 10) kc_12_7 rfl (xc_gt_f (X := a3.toInt) (Y := 5) rfl (by decide) (by omega)) ?_
                  refine xi_iconst (pc' := 11) (v := 1) kc_12_10 rfl rfl ?_
                  refine xi_goto (pc' := 15) kc_12_11 rfl ?_
                  refine xi_ireturn kc_12_15 mr_12 rfl ?_
                  show xw J ov 99 65 (30, [(0, .ref 115), (1, .int a1), (2, .int a2), (3, .int a3), (4, .int a4)], [.int 1], hh2) _
                  refine xi_ift (pc' := 39) kc_65_30 rfl rfl ?_
                  refine xi_iload (pc' := 41) (x := a4) kc_65_39 rfl rfl ?_
                  refine xi_iconst (pc' := 42) (v := 0) kc_65_41 rfl rfl ?_
                  refine xi_iconst (pc' := 43) (v := 2) kc_65_42 rfl rfl ?_
                  refine xi_static (mj := 12) (as := [.int a4, .int 0, .int 2]) (st1 := []) (lv0 := [(0, .int a4), (1, .int 0), (2, .int 2)]) kc_65_43 rfl rfl (Nat.le_of_ble_eq_true rfl) rfl rfl (Nat.le_of_ble_eq_true rfl) (hJ _ _ _ _ (by decide)) (xm_le ml_12 rfl) rfl ?_
                  refine xi_iload_n (pc' := 1) (x := a4) kc_12_0 rfl rfl ?_
                  refine xi_iload_n (pc' := 2) (x := 0) kc_12_1 rfl rfl ?_
                  refine xi_cmf (pc' := 5) kc_12_2 rfl (xc_lt_f (X := a4.toInt) (Y := 0) rfl (by decide) (by omega)) ?_
                  refine xi_iload_n (pc' := 6) (x := a4) kc_12_5 rfl rfl ?_
                  refine xi_iload_n (pc' := 7) (x := 2) kc_12_6 rfl rfl ?_
                  refine xi_cmt (pc' := 14) kc_12_7 rfl (xc_gt_t (X := a4.toInt) (Y := 2) rfl (by decide) (by omega)) ?_
                  refine xi_iconst (pc' := 15) (v := 0) kc_12_14 rfl rfl ?_
                  refine xi_ireturn kc_12_15 mr_12 rfl ?_
                  show xw J ov 99 65 (46, [(0, .ref 115), (1, .int a1), (2, .int a2), (3, .int a3), (4, .int a4)], [.int 0], hh2) _
                  refine xi_iff (pc' := 49) kc_65_46 rfl rfl ?_
                  refine xi_aload_n (pc' := 50) (x := 115) kc_65_49 rfl rfl ?_
                  refine xi_bipush (pc' := 52) (v := (-2)) kc_65_50 rfl rfl ?_
                  refine xi_virtual (mj := 13) (as := [.int (-2)]) (st1 := []) (lv0 := [(0, .ref 115), (1, .int (-2))]) kc_65_52 rfl rfl rfl rfl rfl eh2.1 (Nat.le_of_ble_eq_true rfl) (hJ _ _ _ _ (by decide)) (xm_le ml_13 rfl) rfl ?_
                  refine xi_aload_n (pc' := 1) (x := 115) kc_13_0 rfl rfl ?_
                  refine xi_getfield (pc' := 4) (v := .ref 140) kc_13_1 rfl rfl rfl eh2.1 rfl ?_
                  refine xi_iload_n (pc' := 5) (x := (-2)) kc_13_4 rfl rfl ?_
                  refine xi_ineg (pc' := 6) (v := 2) kc_13_5 rfl rfl ?_
                  refine xi_dup2 (pc' := 7) kc_13_6 rfl ⟨rfl, rfl⟩ ?_
                  refine xi_iaload (pc' := 8) (v := 0) kc_13_7 rfl ((eh2.2.1 140 (by decide)).trans ((eh1.2.1 140 (by decide)).trans (F 140 _ hl_140))) (by decide) rfl (xi_in (n := 7) (by decide) (by decide)) rfl ?_
                  refine xi_iconst (pc' := 9) (v := 1) kc_13_8 rfl rfl ?_
                  refine xi_iadd (pc' := 10) (v := 1) kc_13_9 rfl rfl ?_
                  refine xi_iastore (pc' := 11) (x' := [0, 0, 1, 0, 0, 0, 0]) kc_13_10 rfl ((eh2.2.1 140 (by decide)).trans ((eh1.2.1 140 (by decide)).trans (F 140 _ hl_140))) rfl (xi_in (n := 7) (by decide) (by decide)) rfl (fun hh3 eh3 => ?_)
                  refine xi_iload_n (pc' := 12) (x := (-2)) kc_13_11 rfl rfl ?_
                  refine xi_ireturn kc_13_12 mr_13 rfl ?_
                  show xw J ov 99 65 (55, [(0, .ref 115), (1, .int a1), (2, .int a2), (3, .int a3), (4, .int a4)], [.int (-2)], hh3) _
                  refine xi_ireturn kc_65_55 mr_65 rfl ?_
                  show xw J ov 100 196 (1215, [(4, .int 0), (3, .ref 167), (2, .ref 115), (1, .ref 0), (0, .ref 1000000)], [.int (-2), .int (-2)], hh3) _
                  refine xi_cmt (pc' := 1528) kc_196_1215 rfl rfl ?_
                  refine xi_iinc (pc' := 1531) (x := 0) (v := 6) (lv' := [(4, .int 6), (3, .ref 167), (2, .ref 115), (1, .ref 0), (0, .ref 1000000)]) kc_196_1528 rfl rfl rfl rfl (xm_lt ml_196 rfl) ?_
                  refine xi_goto (pc' := 23) kc_196_1531 rfl ?_
                  refine xi_iload (pc' := 25) (x := 6) kc_196_23 rfl rfl ?_
                  refine xi_aload_n (pc' := 26) (x := 1000000) kc_196_25 rfl rfl ?_
                  refine xi_arraylength (pc' := 27) (n := 6) (v := 6) kc_196_26 rfl (xl_lenO (by decide) hov0 rfl) rfl ?_
                  refine xi_bipush (pc' := 29) (v := 6) kc_196_27 rfl rfl ?_
                  refine xi_isub (pc' := 30) (v := 0) kc_196_29 rfl rfl ?_
                  refine xi_cmt (pc' := 1534) kc_196_30 rfl rfl ?_
                  refine xi_iconst (pc' := 1535) (v := 1) kc_196_1534 rfl rfl ?_
                  refine xi_ireturn kc_196_1535 mr_196 rfl ?_
                  refine ⟨rfl, ?_, ?_⟩
                  · rw [eh3.2.2.1, eh2.2.2.1, eh1.2.2.1]; exact hn0
                  · rw [eh3.2.2.2, eh2.2.2.2, eh1.2.2.2]; exact hz0
            · refine xi_cmf (pc' := 29) kc_168_26 rfl (xc_lt_f (X := a3.toInt) (Y := 6) rfl (by decide) (by omega)) ?_
              refine xi_aload_n (pc' := 30) (x := 0) kc_168_29 rfl rfl ?_
              refine xi_iconst (pc' := 31) (v := (-1)) kc_168_30 rfl rfl ?_
              refine xi_virtual (mj := 91) (as := [.int (-1)]) (st1 := []) (lv0 := [(0, .ref 0), (1, .int (-1))]) kc_168_31 rfl rfl rfl rfl rfl (F 0 _ hl_0) (Nat.le_of_ble_eq_true rfl) (hJ _ _ _ _ (by decide)) (xm_le ml_91 rfl) rfl ?_
              refine xi_iload_n (pc' := 1) (x := (-1)) kc_91_0 rfl rfl ?_
              refine xi_ineg (pc' := 2) (v := 1) kc_91_1 rfl rfl ?_
              refine xi_istore_n (pc' := 3) (lv' := [(2, .int 1), (0, .ref 0), (1, .int (-1))]) kc_91_2 rfl rfl (xm_lt ml_91 rfl) ?_
              refine xi_iload_n (pc' := 4) (x := 1) kc_91_3 rfl rfl ?_
              refine xi_iff (pc' := 7) kc_91_4 rfl rfl ?_
              refine xi_iload_n (pc' := 8) (x := 1) kc_91_7 rfl rfl ?_
              refine xi_aload_n (pc' := 9) (x := 0) kc_91_8 rfl rfl ?_
              refine xi_getfield (pc' := 12) (v := .ref 94) kc_91_9 rfl rfl rfl (F 0 _ hl_0) rfl ?_
              refine xi_arraylength (pc' := 13) (n := 7) (v := 7) kc_91_12 rfl (xl_lenI (by decide) (by decide) (F 94 _ hl_94) (by simp only [List.length_replicate, List.length_cons, List.length_nil])) rfl ?_
              refine xi_cmf (pc' := 16) kc_91_13 rfl rfl ?_
              refine xi_aload_n (pc' := 17) (x := 0) kc_91_16 rfl rfl ?_
              refine xi_getfield (pc' := 20) (v := .ref 94) kc_91_17 rfl rfl rfl (F 0 _ hl_0) rfl ?_
              refine xi_iload_n (pc' := 21) (x := 1) kc_91_20 rfl rfl ?_
              refine xi_dup2 (pc' := 22) kc_91_21 rfl ⟨rfl, rfl⟩ ?_
              refine xi_iaload (pc' := 23) (v := 0) kc_91_22 rfl (F 94 _ hl_94) (by decide) rfl (xi_in (n := 7) (by decide) (by decide)) rfl ?_
              refine xi_iconst (pc' := 24) (v := 1) kc_91_23 rfl rfl ?_
              refine xi_iadd (pc' := 25) (v := 1) kc_91_24 rfl rfl ?_
              refine xi_iastore (pc' := 26) (x' := [0, 1, 0, 0, 0, 0, 0]) kc_91_25 rfl (F 94 _ hl_94) rfl (xi_in (n := 7) (by decide) (by decide)) rfl (fun hh1 eh1 => ?_)
              refine xi_iload_n (pc' := 27) (x := (-1)) kc_91_26 rfl rfl ?_
              refine xi_ireturn kc_91_27 mr_91 rfl ?_
              show xw J ov 99 168 (34, [(0, .ref 0), (1, .int a1), (2, .int a2), (3, .int a3), (4, .int a4)], [.int (-1)], hh1) _
              refine xi_ireturn kc_168_34 mr_168 rfl ?_
              show xw J ov 100 196 (1187, [(4, .int 0), (3, .ref 167), (2, .ref 115), (1, .ref 0), (0, .ref 1000000)], [.int (-1)], hh1) _
              refine xi_aload_n (pc' := 1188) (x := 115) kc_196_1187 rfl rfl ?_
              refine xi_aload_n (pc' := 1189) (x := 1000000) kc_196_1188 rfl rfl ?_
              refine xi_iload (pc' := 1191) (x := 0) kc_196_1189 rfl rfl ?_
              refine xi_iconst (pc' := 1192) (v := 1) kc_196_1191 rfl rfl ?_
              refine xi_iadd (pc' := 1193) (v := 1) kc_196_1192 rfl rfl ?_
              refine xi_ialoadO (pc' := 1194) (v := a1) kc_196_1193 rfl (by decide) hov0 (xi_in (n := 6) (by decide) (by decide)) rfl ?_
              refine xi_aload_n (pc' := 1195) (x := 1000000) kc_196_1194 rfl rfl ?_
              refine xi_iload (pc' := 1197) (x := 0) kc_196_1195 rfl rfl ?_
              refine xi_iconst (pc' := 1198) (v := 2) kc_196_1197 rfl rfl ?_
              refine xi_iadd (pc' := 1199) (v := 2) kc_196_1198 rfl rfl ?_
              refine xi_ialoadO (pc' := 1200) (v := a2) kc_196_1199 rfl (by decide) hov0 (xi_in (n := 6) (by decide) (by decide)) rfl ?_
              refine xi_aload_n (pc' := 1201) (x := 1000000) kc_196_1200 rfl rfl ?_
              refine xi_iload (pc' := 1203) (x := 0) kc_196_1201 rfl rfl ?_
              refine xi_iconst (pc' := 1204) (v := 3) kc_196_1203 rfl rfl ?_
              refine xi_iadd (pc' := 1205) (v := 3) kc_196_1204 rfl rfl ?_
              refine xi_ialoadO (pc' := 1206) (v := a3) kc_196_1205 rfl (by decide) hov0 (xi_in (n := 6) (by decide) (by decide)) rfl ?_
              refine xi_aload_n (pc' := 1207) (x := 1000000) kc_196_1206 rfl rfl ?_
              refine xi_iload (pc' := 1209) (x := 0) kc_196_1207 rfl rfl ?_
              refine xi_iconst (pc' := 1210) (v := 4) kc_196_1209 rfl rfl ?_
              refine xi_iadd (pc' := 1211) (v := 4) kc_196_1210 rfl rfl ?_
              refine xi_ialoadO (pc' := 1212) (v := a4) kc_196_1211 rfl (by decide) hov0 (xi_in (n := 6) (by decide) (by decide)) rfl ?_
              refine xi_virtual (mj := 65) (as := [.int a1, .int a2, .int a3, .int a4]) (st1 := [.int (-1)]) (lv0 := [(0, .ref 115), (1, .int a1), (2, .int a2), (3, .int a3), (4, .int a4)]) kc_196_1212 rfl rfl rfl rfl rfl ((eh1.2.1 115 (by decide)).trans (F 115 _ hl_115)) (Nat.le_of_ble_eq_true rfl) (hJ _ _ _ _ (by decide)) (xm_le ml_65 rfl) rfl ?_
              refine xi_aload_n (pc' := 1) (x := 115) kc_65_0 rfl rfl ?_
              refine xi_iconst (pc' := 2) (v := 0) kc_65_1 rfl rfl ?_
              refine xi_putfield (pc' := 5) (fs' := [.int 0, .int 0, .ref 116, .ref 117, .ref 118, .ref 119, .ref 120, .ref 121, .ref 122, .ref 123, .ref 124, .ref 125, .ref 126, .ref 127, .ref 128, .ref 129, .int 4, .ref 130, .int 0, .ref 131, .ref 132, .ref 133, .ref 134, .int 0, .ref 135, .ref 136, .ref 137, .ref 138, .ref 139, .ref 140, .ref 141, .ref 142, .int 0, .int 0, .int 0, .ref 143, .ref 144, .ref 145, .ref 146, .ref 147, .ref 148, .int 0, .ref 149, .ref 150, .ref 151, .int 0, .ref 152, .ref 153, .ref 154, .ref 155, .ref 156, .ref 157, .ref 158, .ref 159, .int 0, .ref 160, .int 0, .ref 161, .ref 162, .ref 163, .ref 164, .int 0, .ref 165, .ref 166]) kc_65_2 rfl rfl rfl ((eh1.2.1 115 (by decide)).trans (F 115 _ hl_115)) rfl rfl rfl (Nat.le_of_ble_eq_true rfl) rfl (fun hh2 eh2 => ?_)
              refine xi_iload_n (pc' := 6) (x := a1) kc_65_5 rfl rfl ?_
              refine xi_iconst (pc' := 7) (v := 0) kc_65_6 rfl rfl ?_
              refine xi_bipush (pc' := 9) (v := 23) kc_65_7 rfl rfl ?_
              refine xi_static (mj := 12) (as := [.int a1, .int 0, .int 23]) (st1 := []) (lv0 := [(0, .int a1), (1, .int 0), (2, .int 23)]) kc_65_9 rfl rfl (Nat.le_of_ble_eq_true rfl) rfl rfl (Nat.le_of_ble_eq_true rfl) (hJ _ _ _ _ (by decide)) (xm_le ml_12 rfl) rfl ?_
              refine xi_iload_n (pc' := 1) (x := a1) kc_12_0 rfl rfl ?_
              refine xi_iload_n (pc' := 2) (x := 0) kc_12_1 rfl rfl ?_
              refine xi_cmf (pc' := 5) kc_12_2 rfl (xc_lt_f (X := a1.toInt) (Y := 0) rfl (by decide) (by omega)) ?_
              refine xi_iload_n (pc' := 6) (x := a1) kc_12_5 rfl rfl ?_
              refine xi_iload_n (pc' := 7) (x := 23) kc_12_6 rfl rfl ?_
              refine xi_cmf (pc' := 10) kc_12_7 rfl (xc_gt_f (X := a1.toInt) (Y := 23) rfl (by decide) (by omega)) ?_
              refine xi_iconst (pc' := 11) (v := 1) kc_12_10 rfl rfl ?_
              refine xi_goto (pc' := 15) kc_12_11 rfl ?_
              refine xi_ireturn kc_12_15 mr_12 rfl ?_
              show xw J ov 99 65 (12, [(0, .ref 115), (1, .int a1), (2, .int a2), (3, .int a3), (4, .int a4)], [.int 1], hh2) _
              refine xi_iff (pc' := 15) kc_65_12 rfl rfl ?_
              refine xi_iload_n (pc' := 16) (x := a2) kc_65_15 rfl rfl ?_
              refine xi_iconst (pc' := 17) (v := 0) kc_65_16 rfl rfl ?_
              refine xi_iconst (pc' := 18) (v := 3) kc_65_17 rfl rfl ?_
              refine xi_static (mj := 12) (as := [.int a2, .int 0, .int 3]) (st1 := []) (lv0 := [(0, .int a2), (1, .int 0), (2, .int 3)]) kc_65_18 rfl rfl (Nat.le_of_ble_eq_true rfl) rfl rfl (Nat.le_of_ble_eq_true rfl) (hJ _ _ _ _ (by decide)) (xm_le ml_12 rfl) rfl ?_
              refine xi_iload_n (pc' := 1) (x := a2) kc_12_0 rfl rfl ?_
              refine xi_iload_n (pc' := 2) (x := 0) kc_12_1 rfl rfl ?_
              refine xi_cmf (pc' := 5) kc_12_2 rfl (xc_lt_f (X := a2.toInt) (Y := 0) rfl (by decide) (by omega)) ?_
              refine xi_iload_n (pc' := 6) (x := a2) kc_12_5 rfl rfl ?_
              refine xi_iload_n (pc' := 7) (x := 3) kc_12_6 rfl rfl ?_
              refine xi_cmf (pc' := 10) kc_12_7 rfl (xc_gt_f (X := a2.toInt) (Y := 3) rfl (by decide) (by omega)) ?_
              refine xi_iconst (pc' := 11) (v := 1) kc_12_10 rfl rfl ?_
              refine xi_goto (pc' := 15) kc_12_11 rfl ?_
              refine xi_ireturn kc_12_15 mr_12 rfl ?_
              show xw J ov 99 65 (21, [(0, .ref 115), (1, .int a1), (2, .int a2), (3, .int a3), (4, .int a4)], [.int 1], hh2) _
              refine xi_iff (pc' := 24) kc_65_21 rfl rfl ?_
              refine xi_iload_n (pc' := 25) (x := a3) kc_65_24 rfl rfl ?_
              refine xi_iconst (pc' := 26) (v := 0) kc_65_25 rfl rfl ?_
              refine xi_iconst (pc' := 27) (v := 5) kc_65_26 rfl rfl ?_
              refine xi_static (mj := 12) (as := [.int a3, .int 0, .int 5]) (st1 := []) (lv0 := [(0, .int a3), (1, .int 0), (2, .int 5)]) kc_65_27 rfl rfl (Nat.le_of_ble_eq_true rfl) rfl rfl (Nat.le_of_ble_eq_true rfl) (hJ _ _ _ _ (by decide)) (xm_le ml_12 rfl) rfl ?_
              refine xi_iload_n (pc' := 1) (x := a3) kc_12_0 rfl rfl ?_
              refine xi_iload_n (pc' := 2) (x := 0) kc_12_1 rfl rfl ?_
              refine xi_cmf (pc' := 5) kc_12_2 rfl (xc_lt_f (X := a3.toInt) (Y := 0) rfl (by decide) (by omega)) ?_
              refine xi_iload_n (pc' := 6) (x := a3) kc_12_5 rfl rfl ?_
              refine xi_iload_n (pc' := 7) (x := 5) kc_12_6 rfl rfl ?_
              refine xi_cmt (pc' := 14) kc_12_7 rfl (xc_gt_t (X := a3.toInt) (Y := 5) rfl (by decide) (by omega)) ?_
              refine xi_iconst (pc' := 15) (v := 0) kc_12_14 rfl rfl ?_
              refine xi_ireturn kc_12_15 mr_12 rfl ?_
              show xw J ov 99 65 (30, [(0, .ref 115), (1, .int a1), (2, .int a2), (3, .int a3), (4, .int a4)], [.int 0], hh2) _
              refine xi_iff (pc' := 33) kc_65_30 rfl rfl ?_
              refine xi_aload_n (pc' := 34) (x := 115) kc_65_33 rfl rfl ?_
              refine xi_iconst (pc' := 35) (v := (-1)) kc_65_34 rfl rfl ?_
              refine xi_virtual (mj := 13) (as := [.int (-1)]) (st1 := []) (lv0 := [(0, .ref 115), (1, .int (-1))]) kc_65_35 rfl rfl rfl rfl rfl eh2.1 (Nat.le_of_ble_eq_true rfl) (hJ _ _ _ _ (by decide)) (xm_le ml_13 rfl) rfl ?_
              refine xi_aload_n (pc' := 1) (x := 115) kc_13_0 rfl rfl ?_
              refine xi_getfield (pc' := 4) (v := .ref 140) kc_13_1 rfl rfl rfl eh2.1 rfl ?_
              refine xi_iload_n (pc' := 5) (x := (-1)) kc_13_4 rfl rfl ?_
              refine xi_ineg (pc' := 6) (v := 1) kc_13_5 rfl rfl ?_
              refine xi_dup2 (pc' := 7) kc_13_6 rfl ⟨rfl, rfl⟩ ?_
              refine xi_iaload (pc' := 8) (v := 0) kc_13_7 rfl ((eh2.2.1 140 (by decide)).trans ((eh1.2.1 140 (by decide)).trans (F 140 _ hl_140))) (by decide) rfl (xi_in (n := 7) (by decide) (by decide)) rfl ?_
              refine xi_iconst (pc' := 9) (v := 1) kc_13_8 rfl rfl ?_
              refine xi_iadd (pc' := 10) (v := 1) kc_13_9 rfl rfl ?_
              refine xi_iastore (pc' := 11) (x' := [0, 1, 0, 0, 0, 0, 0]) kc_13_10 rfl ((eh2.2.1 140 (by decide)).trans ((eh1.2.1 140 (by decide)).trans (F 140 _ hl_140))) rfl (xi_in (n := 7) (by decide) (by decide)) rfl (fun hh3 eh3 => ?_)
              refine xi_iload_n (pc' := 12) (x := (-1)) kc_13_11 rfl rfl ?_
              refine xi_ireturn kc_13_12 mr_13 rfl ?_
              show xw J ov 99 65 (38, [(0, .ref 115), (1, .int a1), (2, .int a2), (3, .int a3), (4, .int a4)], [.int (-1)], hh3) _
              refine xi_ireturn kc_65_38 mr_65 rfl ?_
              show xw J ov 100 196 (1215, [(4, .int 0), (3, .ref 167), (2, .ref 115), (1, .ref 0), (0, .ref 1000000)], [.int (-1), .int (-1)], hh3) _
              refine xi_cmt (pc' := 1528) kc_196_1215 rfl rfl ?_
              refine xi_iinc (pc' := 1531) (x := 0) (v := 6) (lv' := [(4, .int 6), (3, .ref 167), (2, .ref 115), (1, .ref 0), (0, .ref 1000000)]) kc_196_1528 rfl rfl rfl rfl (xm_lt ml_196 rfl) ?_
              refine xi_goto (pc' := 23) kc_196_1531 rfl ?_
              refine xi_iload (pc' := 25) (x := 6) kc_196_23 rfl rfl ?_
              refine xi_aload_n (pc' := 26) (x := 1000000) kc_196_25 rfl rfl ?_
              refine xi_arraylength (pc' := 27) (n := 6) (v := 6) kc_196_26 rfl (xl_lenO (by decide) hov0 rfl) rfl ?_
              refine xi_bipush (pc' := 29) (v := 6) kc_196_27 rfl rfl ?_
              refine xi_isub (pc' := 30) (v := 0) kc_196_29 rfl rfl ?_
              refine xi_cmt (pc' := 1534) kc_196_30 rfl rfl ?_
              refine xi_iconst (pc' := 1535) (v := 1) kc_196_1534 rfl rfl ?_
              refine xi_ireturn kc_196_1535 mr_196 rfl ?_
              refine ⟨rfl, ?_, ?_⟩
              · rw [eh3.2.2.1, eh2.2.2.1, eh1.2.2.1]; exact hn0
              · rw [eh3.2.2.2, eh2.2.2.2, eh1.2.2.2]; exact hz0
