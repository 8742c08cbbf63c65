def xI (h : xe_H) : Prop := xl h (0, 9) = xl h (115, 1) ∧ (∃ w : Nat → Int, xra h 64 6 w ∧ xra h 121 6 w ∧ xwr 6 99999 w) ∧ (∃ st : xFn, xg6 h st ∧ xr5 h st) ∧ xE (xl h (13, 0)) (xl h (122, 0)) 0 24 ∧ xE (xl h (16, 0)) (xl h (122, 0)) 24 24 ∧ xE (xl h (19, 0)) (xl h (122, 0)) 48 24 ∧ xE (xl h (22, 0)) (xl h (122, 0)) 72 24 ∧ xE (xl h (25, 0)) (xl h (122, 0)) 96 24 ∧ xE (xl h (28, 0)) (xl h (122, 0)) 120 24 ∧ xE (xl h (6, 0)) (xl h (123, 0)) 0 600 ∧ xE (xl h (9, 0)) (xl h (124, 0)) 0 600 ∧ xL (xl h (7, 0)) (xl h (6, 0)) 5 ∧ xL (xl h (10, 0)) (xl h (9, 0)) 0 ∧ xl h (5, 0) = some (.inl (.int 5)) ∧ xl h (8, 0) = some (.inl (.int 0)) ∧ xGR h xG_wall 0 125 ∧ xGR h xG_wall 2 127 ∧ xl h (1, 5) = xl h (115, 23) ∧ xGR h xG_cause 0 135 ∧ xGR h xG_cause 1 136 ∧ xGR h xG_cause 2 137 ∧ xGR h xG_cause 3 138 ∧ xB (xl h (63, 2)) (xl h (139, 0)) (xl h (1, 5)) ∧ xl h (0, 8) = xl h (115, 34) ∧ xGR h xG_trial 0 143 ∧ xGR h xG_trial 3 146 ∧ xGR h xG_trial 4 147 ∧ xGR h xG_trial 5 148 ∧ (xts h) ∧ xl h (63, 3) = some (.inl (.int 63))
theorem xI_kept {h h' : xe_H} (I : xI h) (F : ∀ l : Nat × Nat, List.elem l xP_27 = true → xl h' l = xl h l) : xI h' := ⟨((F (0, 9) (by decide +kernel)).trans (I.1.trans (F (115, 1) (by decide +kernel)).symm)), (xWW_fr I.2.1 (F (64, 0) (by decide +kernel)) (F (121, 0) (by decide +kernel))), (xSG_fr I.2.2.1 (fun l hl => F l (xk_el (by decide +kernel) hl))), (by rw [(F (13, 0) (by decide +kernel)), (F (122, 0) (by decide +kernel))]; exact I.2.2.2.1), (by rw [(F (16, 0) (by decide +kernel)), (F (122, 0) (by decide +kernel))]; exact I.2.2.2.2.1), (by rw [(F (19, 0) (by decide +kernel)), (F (122, 0) (by decide +kernel))]; exact I.2.2.2.2.2.1), (by rw [(F (22, 0) (by decide +kernel)), (F (122, 0) (by decide +kernel))]; exact I.2.2.2.2.2.2.1), (by rw [(F (25, 0) (by decide +kernel)), (F (122, 0) (by decide +kernel))]; exact I.2.2.2.2.2.2.2.1), (by rw [(F (28, 0) (by decide +kernel)), (F (122, 0) (by decide +kernel))]; exact I.2.2.2.2.2.2.2.2.1), (by rw [(F (6, 0) (by decide +kernel)), (F (123, 0) (by decide +kernel))]; exact I.2.2.2.2.2.2.2.2.2.1), (by rw [(F (9, 0) (by decide +kernel)), (F (124, 0) (by decide +kernel))]; exact I.2.2.2.2.2.2.2.2.2.2.1), (by rw [(F (7, 0) (by decide +kernel)), (F (6, 0) (by decide +kernel))]; exact I.2.2.2.2.2.2.2.2.2.2.2.1), (by rw [(F (10, 0) (by decide +kernel)), (F (9, 0) (by decide +kernel))]; exact I.2.2.2.2.2.2.2.2.2.2.2.2.1), ((F (5, 0) (by decide +kernel)).trans I.2.2.2.2.2.2.2.2.2.2.2.2.2.1), ((F (8, 0) (by decide +kernel)).trans I.2.2.2.2.2.2.2.2.2.2.2.2.2.2.1), (xGR_fr I.2.2.2.2.2.2.2.2.2.2.2.2.2.2.2.1 F (by decide +kernel) (by decide +kernel)), (xGR_fr I.2.2.2.2.2.2.2.2.2.2.2.2.2.2.2.2.1 F (by decide +kernel) (by decide +kernel)), ((F (1, 5) (by decide +kernel)).trans (I.2.2.2.2.2.2.2.2.2.2.2.2.2.2.2.2.2.1.trans (F (115, 23) (by decide +kernel)).symm)), (xGR_fr I.2.2.2.2.2.2.2.2.2.2.2.2.2.2.2.2.2.2.1 F (by decide +kernel) (by decide +kernel)), (xGR_fr I.2.2.2.2.2.2.2.2.2.2.2.2.2.2.2.2.2.2.2.1 F (by decide +kernel) (by decide +kernel)), (xGR_fr I.2.2.2.2.2.2.2.2.2.2.2.2.2.2.2.2.2.2.2.2.1 F (by decide +kernel) (by decide +kernel)), (xGR_fr I.2.2.2.2.2.2.2.2.2.2.2.2.2.2.2.2.2.2.2.2.2.1 F (by decide +kernel) (by decide +kernel)), (by rw [(F (63, 2) (by decide +kernel)), (F (139, 0) (by decide +kernel)), (F (1, 5) (by decide +kernel))]; exact I.2.2.2.2.2.2.2.2.2.2.2.2.2.2.2.2.2.2.2.2.2.2.1), ((F (0, 8) (by decide +kernel)).trans (I.2.2.2.2.2.2.2.2.2.2.2.2.2.2.2.2.2.2.2.2.2.2.2.1.trans (F (115, 34) (by decide +kernel)).symm)), (xGR_fr I.2.2.2.2.2.2.2.2.2.2.2.2.2.2.2.2.2.2.2.2.2.2.2.2.1 F (by decide +kernel) (by decide +kernel)), (xGR_fr I.2.2.2.2.2.2.2.2.2.2.2.2.2.2.2.2.2.2.2.2.2.2.2.2.2.1 F (by decide +kernel) (by decide +kernel)), (xGR_fr I.2.2.2.2.2.2.2.2.2.2.2.2.2.2.2.2.2.2.2.2.2.2.2.2.2.2.1 F (by decide +kernel) (by decide +kernel)), (xGR_fr I.2.2.2.2.2.2.2.2.2.2.2.2.2.2.2.2.2.2.2.2.2.2.2.2.2.2.2.1 F (by decide +kernel) (by decide +kernel)), (xts_fr I.2.2.2.2.2.2.2.2.2.2.2.2.2.2.2.2.2.2.2.2.2.2.2.2.2.2.2.2.1 (fun l hl => F l (xk_el (by decide +kernel) hl))), ((F (63, 3) (by decide +kernel)).trans I.2.2.2.2.2.2.2.2.2.2.2.2.2.2.2.2.2.2.2.2.2.2.2.2.2.2.2.2.2)⟩
theorem xw_rn5 {J : xe_J} {ov : List (List Int32)} (hJ : ∀ d mj as h, mj ≠ xe_loff → J d mj as h = none) (hov1 : ov[1]? = some [10, 0, 0, 0, 0, 0]) (hov2 : ov[2]? = some [99, 30, 50, 50, 1, 99999]) {d : Nat} {Q : Option Value → xe_H → Prop} {h : xe_H} {w : Nat → Int} {x1 : Int32} (T : xt h) (IW : xra h 121 6 w) (b1 : 0 ≤ x1.toInt ∧ x1.toInt ≤ 5) (kk : ∀ r : Int32, r.toInt = w x1.toNatClampNeg → Q (some (.int r)) h) : xw J ov (d + 1) 13 (0, [(0, .ref 115), (1, .int x1), (2, .int 5)], [], h) Q := by
  have K : xk [] h h := xk_re T
  refine xi_iload_n (pc' := 1) (x := 5) kc_13_0 rfl rfl ?_
  refine xi_tsd (pc' := 71) kc_13_1 rfl (by decide) ?_
  refine xi_aload_n (pc' := 72) (x := 115) kc_13_71 rfl rfl ?_
  obtain ⟨u1, u2, u3, u4, u5, u6, u7, u8, u9, u10, u11, u12, u13, bu1, bu2, bu3, bu4, bu5, bu6, bu7, bu8, bu9, bu10, bu11, bu12, bu13, A14⟩ := xq_115 K.1
  refine xi_getfield (pc' := 75) (v := .ref 121) kc_13_72 rfl rfl rfl A14 rfl ?_
  refine xi_iload_n (pc' := 76) (x := x1) kc_13_75 rfl rfl ?_
  obtain ⟨y15, A15, hy15, ry15⟩ := xk_arr K.1 xD_121
  have R16 : xrp y15 6 w := xra_ld IW A15
  obtain ⟨v17, ev17, bv17, dv17⟩ := xj_get hy15 ry15 (i := x1) (by omega) (by omega)
  refine xi_iaload (pc' := 77) (v := v17) kc_13_76 rfl A15 (by decide) rfl (xi_in (by omega) (by rw [hy15]; omega)) ev17 ?_
  have hlv17 : v17.toInt = w (Int32.toNatClampNeg x1) := xrp_ld R16 (by omega) (by omega) ev17
  refine xi_ireturn kc_13_77 mr_13 rfl ?_
  exact kk v17 hlv17
set_option maxHeartbeats 4000000 in
theorem xI_hour {h : xe_H} (T : xt h) (I : xI h) : ∃ (C : xFn) (s : xSt) (hr : Int), (0 ≤ hr ∧ hr ≤ 600) ∧ xcX h C ∧ xcM h C ∧ xcr C ∧ xct C ∧ xsr s ∧ (xfi h 0 9 hr ∧ xra h 64 6 s.1 ∧ xg6 h s.2.1 ∧ xgf h xG_trial 5 s.2.2) ∧ (xfi h 115 1 hr ∧ xra h 121 6 s.1 ∧ xr5 h s.2.1 ∧ xra h 148 20 s.2.2) := by
  obtain ⟨f0, f1, f16, f18, f23, f32, f33, f34, f41, f45, f54, f56, f61, bf0, bf1, bf16, bf18, bf23, bf32, bf33, bf34, bf41, bf45, bf54, bf56, bf61, AM⟩ := xq_115 T
  obtain ⟨y0, Ay0, hy0, by0⟩ := xk_arr T xD_135
  obtain ⟨y1, Ay1, hy1, by1⟩ := xk_arr T xD_136
  obtain ⟨y2, Ay2, hy2, by2⟩ := xk_arr T xD_137
  obtain ⟨y3, Ay3, hy3, by3⟩ := xk_arr T xD_138
  obtain ⟨y4, Ay4, hy4, by4⟩ := xk_arr T xD_139
  obtain ⟨y5, Ay5, hy5, by5⟩ := xk_arr T xD_143
  obtain ⟨y6, Ay6, hy6, by6⟩ := xk_arr T xD_146
  obtain ⟨y7, Ay7, hy7, by7⟩ := xk_arr T xD_147
  obtain ⟨yw, Ayw, hyw, byw⟩ := xk_arr T xD_148
  obtain ⟨yv, Ayv, hyv, byv⟩ := xk_arr T xD_145
  obtain ⟨ym, Aym, hym, bym⟩ := xk_arr T xD_122
  obtain ⟨yo, Ayo, hyo, byo⟩ := xk_arr T xD_123
  obtain ⟨r0, Ar0, hr0, br0⟩ := xk_arr T xD_116
  obtain ⟨r1, Ar1, hr1, br1⟩ := xk_arr T xD_117
  obtain ⟨r2, Ar2, hr2, br2⟩ := xk_arr T xD_118
  obtain ⟨r3, Ar3, hr3, br3⟩ := xk_arr T xD_119
  obtain ⟨r4, Ar4, hr4, br4⟩ := xk_arr T xD_120
  obtain ⟨yc, Ayc, hyc, byc⟩ := xk_arr T xD_7
  obtain ⟨yt, Ayt, hyt, byt⟩ := xk_arr T xD_6
  obtain ⟨m0, Am0, hm0, bm0⟩ := xk_arr T xD_13
  obtain ⟨m1, Am1, hm1, bm1⟩ := xk_arr T xD_16
  obtain ⟨m2, Am2, hm2, bm2⟩ := xk_arr T xD_19
  obtain ⟨m3, Am3, hm3, bm3⟩ := xk_arr T xD_22
  obtain ⟨m4, Am4, hm4, bm4⟩ := xk_arr T xD_25
  obtain ⟨m5, Am5, hm5, bm5⟩ := xk_arr T xD_28
  obtain ⟨tq, tu, ka, va, n9, ta, tb, tc, td, te, tf⟩ := I.2.2.2.2.2.2.2.2.2.2.2.2.2.2.2.2.2.2.2.2.2.2.2.2.2.2.2.2.1
  obtain ⟨w, WWa, WWb, WWr⟩ := I.2.1
  obtain ⟨st, I6, I5⟩ := I.2.2.1
  have hn9 : f34.toInt = n9 := xfi_ld te AM rfl
  obtain ⟨C, eC⟩ : ∃ C : xFn, C = xCof f23.toInt n9 y0 y1 y2 y3 y4 y5 y6 y7 tq tu ka va yc ym := ⟨_, rfl⟩
  have c0 : ∀ i, (y0.getD i 0).toInt = C 0 i := fun i => by rw [eC]; rfl
  have c1 : ∀ i, (y1.getD i 0).toInt = C 1 i := fun i => by rw [eC]; rfl
  have c2 : ∀ i, (y2.getD i 0).toInt = C 2 i := fun i => by rw [eC]; rfl
  have c3 : ∀ i, (y3.getD i 0).toInt = C 3 i := fun i => by rw [eC]; rfl
  have c4 : ∀ i, (y4.getD i 0).toInt = C 4 i := fun i => by rw [eC]; rfl
  have c5 : ∀ i, (y5.getD i 0).toInt = C 5 i := fun i => by rw [eC]; rfl
  have c6 : ∀ i, (y6.getD i 0).toInt = C 6 i := fun i => by rw [eC]; rfl
  have c7 : ∀ i, (y7.getD i 0).toInt = C 7 i := fun i => by rw [eC]; rfl
  have c8 : tq = C 8 := by rw [eC]; rfl
  have c9 : tu = C 9 := by rw [eC]; rfl
  have c13 : ka = C 13 := by rw [eC]; rfl
  have c14 : va = C 14 := by rw [eC]; rfl
  have c10 : ∀ i, (yc.getD i 0).toInt = C 10 i := fun i => by rw [eC]; rfl
  have c11 : f23.toInt = C 11 0 := by rw [eC]; rfl
  have c12 : n9 = C 12 0 := by rw [eC]; rfl
  have cm : ∀ q i, (ym.getD (24 * q + i) 0).toInt = C (20 + q) i := fun q i => by rw [eC]; exact xCof_m.symm
  rw [c8] at ta
  rw [c9] at tb
  rw [c13] at tc
  rw [c14] at td
  rw [c12] at te hn9
  have tf2 : xct C := fun t ht => by have := tf t (by rw [c12]; exact ht); rw [c8, c9, c13, c14] at this; exact this
  have hE := xE_of I.2.2.2.2.2.2.2.2.2.1 Ayt Ayo
  have hL := xL_of I.2.2.2.2.2.2.2.2.2.2.2.1 Ayc Ayt
  have hco : ∀ j, j < 600 → (xlat yo 5 (j + 1)).toInt = C 10 j := fun j hj => by
    rw [← c10, hL j (by omega), xlat_congr (z := yt) (j + 1) (fun i hi => by have := hE i (by omega); rw [Nat.zero_add] at this; exact this.symm)]
  have hM0 := xE_of I.2.2.2.1 Am0 Aym
  have hM1 := xE_of I.2.2.2.2.1 Am1 Aym
  have hM2 := xE_of I.2.2.2.2.2.1 Am2 Aym
  have hM3 := xE_of I.2.2.2.2.2.2.1 Am3 Aym
  have hM4 := xE_of I.2.2.2.2.2.2.2.1 Am4 Aym
  have hM5 := xE_of I.2.2.2.2.2.2.2.2.1 Am5 Aym
  obtain ⟨al2, al3, bal2, bal3, AL⟩ := xq_63 T
  obtain ⟨ah5, ah6, bah5, bah6, AH⟩ := xq_1 T
  have hst : ∀ r, r < 6 → (r0.getD r 0).toInt = st r 0 ∧ (r1.getD r 0).toInt = st r 1 ∧ (r2.getD r 0).toInt = st r 2 ∧ (r3.getD r 0).toInt = st r 3 ∧ (r4.getD r 0).toInt = st r 4 := fun r hr => ⟨(xra_ld I5.1 Ar0).2 r hr, (xra_ld I5.2.1 Ar1).2 r hr, (xra_ld I5.2.2.1 Ar2).2 r hr, (xra_ld I5.2.2.2.1 Ar3).2 r hr, (xra_ld I5.2.2.2.2 Ar4).2 r hr⟩
  have hsq : xsq st := fun r hr => by
    obtain ⟨e0, e1, e2, e3, e4⟩ := hst r hr
    have q0 := br0 r hr
    have q1 := br1 r hr
    have q2 := br2 r hr
    have q3 := br3 r hr
    have q4 := br4 r hr
    rw [e0] at q0
    rw [e1] at q1
    rw [e2] at q2
    rw [e3] at q3
    rw [e4] at q4
    exact ⟨⟨by omega, by omega⟩, ⟨by omega, by omega⟩, ⟨by omega, by omega⟩, ⟨by omega, by omega⟩, ⟨by omega, by omega⟩⟩
  have hcr : xcr C := by
    refine ⟨by rw [← c11]; omega, by rw [← hn9]; omega, fun i hi => ?_, fun i hi => ?_, fun j hj => ?_, fun r hr j hj => ?_⟩
    · rw [← c2]; exact by2 i hi
    · have h20 : i < 20 := by omega
      have k5 := by5 i h20
      have k6 := tf2 i hi
      have k7 : 0 ≤ C 14 i ∧ C 14 i ≤ 50 := by have e := (xra_ld td Ayv).2 i h20; have := byv i h20; omega
      rw [c5] at k5
      exact ⟨k5, by omega, by omega⟩
    · rw [← hco j hj]; exact xlat_rng (by decide) (j + 1) (fun i hi => byo i (by omega))
    · rw [← cm]; exact bym _ (by omega)
  refine ⟨C, (w, st, fun i => (yw.getD i 0).toInt), f1.toInt, bf1, ⟨⟨f23, I.2.2.2.2.2.2.2.2.2.2.2.2.2.2.2.2.2.1.trans (xl_of AM rfl), c11⟩, ⟨f34, I.2.2.2.2.2.2.2.2.2.2.2.2.2.2.2.2.2.2.2.2.2.2.2.1.trans (xl_of AM rfl), hn9⟩, xra_mk Am0 ⟨hm0, fun i hi => by rw [hM0 i hi]; exact cm 0 i⟩, xra_mk Am1 ⟨hm1, fun i hi => by rw [hM1 i hi]; exact cm 1 i⟩, xra_mk Am2 ⟨hm2, fun i hi => by rw [hM2 i hi]; exact cm 2 i⟩, xra_mk Am3 ⟨hm3, fun i hi => by rw [hM3 i hi]; exact cm 3 i⟩, xra_mk Am4 ⟨hm4, fun i hi => by rw [hM4 i hi]; exact cm 4 i⟩, xra_mk Am5 ⟨hm5, fun i hi => by rw [hM5 i hi]; exact cm 5 i⟩, xra_mk Ayc ⟨hyc, fun i _ => c10 i⟩, xgf_of I.2.2.2.2.2.2.2.2.2.2.2.2.2.2.2.2.2.2.1 Ay0 ⟨hy0, fun i _ => c0 i⟩ (by decide), xgf_of I.2.2.2.2.2.2.2.2.2.2.2.2.2.2.2.2.2.2.2.1 Ay1 ⟨hy1, fun i _ => c1 i⟩ (by decide), xgf_of I.2.2.2.2.2.2.2.2.2.2.2.2.2.2.2.2.2.2.2.2.1 Ay2 ⟨hy2, fun i _ => c2 i⟩ (by decide), xgf_of I.2.2.2.2.2.2.2.2.2.2.2.2.2.2.2.2.2.2.2.2.2.1 Ay3 ⟨hy3, fun i _ => c3 i⟩ (by decide), xab_of (xB_of I.2.2.2.2.2.2.2.2.2.2.2.2.2.2.2.2.2.2.2.2.2.2.1 AL Ay4 AH rfl rfl) AL rfl c4, xgf_of I.2.2.2.2.2.2.2.2.2.2.2.2.2.2.2.2.2.2.2.2.2.2.2.2.1 Ay5 ⟨hy5, fun i _ => c5 i⟩ (by decide), xgf_of I.2.2.2.2.2.2.2.2.2.2.2.2.2.2.2.2.2.2.2.2.2.2.2.2.2.1 Ay6 ⟨hy6, fun i _ => c6 i⟩ (by decide), xgf_of I.2.2.2.2.2.2.2.2.2.2.2.2.2.2.2.2.2.2.2.2.2.2.2.2.2.2.1 Ay7 ⟨hy7, fun i _ => c7 i⟩ (by decide), ta, tb, ⟨63, I.2.2.2.2.2.2.2.2.2.2.2.2.2.2.2.2.2.2.2.2.2.2.2.2.2.2.2.2.2, by decide⟩⟩, ⟨⟨f23, xl_of AM rfl, c11⟩, ⟨f34, xl_of AM rfl, hn9⟩, xra_mk Aym ⟨hym, fun j hj => by show (ym.getD j 0).toInt = C (20 + j / 24) (j % 24); rw [← cm, show 24 * (j / 24) + j % 24 = j by omega]⟩, ⟨_, yo, xl_arr Ayo, hco⟩, xra_mk Ay0 ⟨hy0, fun i _ => c0 i⟩, xra_mk Ay1 ⟨hy1, fun i _ => c1 i⟩, xra_mk Ay2 ⟨hy2, fun i _ => c2 i⟩, xra_mk Ay3 ⟨hy3, fun i _ => c3 i⟩, xra_mk Ay4 ⟨hy4, fun i _ => c4 i⟩, xra_mk Ay5 ⟨hy5, fun i _ => c5 i⟩, xra_mk Ay6 ⟨hy6, fun i _ => c6 i⟩, xra_mk Ay7 ⟨hy7, fun i _ => c7 i⟩, tc, td⟩, hcr, tf2, ⟨WWr, hsq, fun i hi => byw i hi⟩, ⟨⟨f1, I.1.trans (xl_of AM rfl), rfl⟩, WWa, I6, xgf_of I.2.2.2.2.2.2.2.2.2.2.2.2.2.2.2.2.2.2.2.2.2.2.2.2.2.2.2.1 Ayw ⟨hyw, fun _ _ => rfl⟩ (by decide)⟩, ⟨f1, xl_of AM rfl, rfl⟩, WWb, I5, xra_mk Ayw ⟨hyw, fun _ _ => rfl⟩⟩
theorem xI_of_hour {h h' : xe_H} (I : xI h) (K : xk xP_28 h h') {s : xSt} {hr : Int} (hs : xsr s) (a1 : xfi h' 0 9 hr) (a2 : xra h' 64 6 s.1) (a3 : xg6 h' s.2.1) (a4 : xgf h' xG_trial 5 s.2.2) (b1 : xfi h' 115 1 hr) (b2 : xra h' 121 6 s.1) (b3 : xr5 h' s.2.1) (b4 : xra h' 148 20 s.2.2) : xI h' := ⟨xfi_eq a1 b1, ⟨s.1, a2, b2, hs.1⟩, ⟨s.2.1, a3, b3⟩, (by rw [(K.2.1 (13, 0) (by decide +kernel)), (K.2.1 (122, 0) (by decide +kernel))]; exact I.2.2.2.1), (by rw [(K.2.1 (16, 0) (by decide +kernel)), (K.2.1 (122, 0) (by decide +kernel))]; exact I.2.2.2.2.1), (by rw [(K.2.1 (19, 0) (by decide +kernel)), (K.2.1 (122, 0) (by decide +kernel))]; exact I.2.2.2.2.2.1), (by rw [(K.2.1 (22, 0) (by decide +kernel)), (K.2.1 (122, 0) (by decide +kernel))]; exact I.2.2.2.2.2.2.1), (by rw [(K.2.1 (25, 0) (by decide +kernel)), (K.2.1 (122, 0) (by decide +kernel))]; exact I.2.2.2.2.2.2.2.1), (by rw [(K.2.1 (28, 0) (by decide +kernel)), (K.2.1 (122, 0) (by decide +kernel))]; exact I.2.2.2.2.2.2.2.2.1), (by rw [(K.2.1 (6, 0) (by decide +kernel)), (K.2.1 (123, 0) (by decide +kernel))]; exact I.2.2.2.2.2.2.2.2.2.1), (by rw [(K.2.1 (9, 0) (by decide +kernel)), (K.2.1 (124, 0) (by decide +kernel))]; exact I.2.2.2.2.2.2.2.2.2.2.1), (by rw [(K.2.1 (7, 0) (by decide +kernel)), (K.2.1 (6, 0) (by decide +kernel))]; exact I.2.2.2.2.2.2.2.2.2.2.2.1), (by rw [(K.2.1 (10, 0) (by decide +kernel)), (K.2.1 (9, 0) (by decide +kernel))]; exact I.2.2.2.2.2.2.2.2.2.2.2.2.1), ((K.2.1 (5, 0) (by decide +kernel)).trans I.2.2.2.2.2.2.2.2.2.2.2.2.2.1), ((K.2.1 (8, 0) (by decide +kernel)).trans I.2.2.2.2.2.2.2.2.2.2.2.2.2.2.1), (xGR_fr I.2.2.2.2.2.2.2.2.2.2.2.2.2.2.2.1 K.2.1 (by decide +kernel) (by decide +kernel)), (xGR_fr I.2.2.2.2.2.2.2.2.2.2.2.2.2.2.2.2.1 K.2.1 (by decide +kernel) (by decide +kernel)), ((K.2.1 (1, 5) (by decide +kernel)).trans (I.2.2.2.2.2.2.2.2.2.2.2.2.2.2.2.2.2.1.trans (K.2.1 (115, 23) (by decide +kernel)).symm)), (xGR_fr I.2.2.2.2.2.2.2.2.2.2.2.2.2.2.2.2.2.2.1 K.2.1 (by decide +kernel) (by decide +kernel)), (xGR_fr I.2.2.2.2.2.2.2.2.2.2.2.2.2.2.2.2.2.2.2.1 K.2.1 (by decide +kernel) (by decide +kernel)), (xGR_fr I.2.2.2.2.2.2.2.2.2.2.2.2.2.2.2.2.2.2.2.2.1 K.2.1 (by decide +kernel) (by decide +kernel)), (xGR_fr I.2.2.2.2.2.2.2.2.2.2.2.2.2.2.2.2.2.2.2.2.2.1 K.2.1 (by decide +kernel) (by decide +kernel)), (by rw [(K.2.1 (63, 2) (by decide +kernel)), (K.2.1 (139, 0) (by decide +kernel)), (K.2.1 (1, 5) (by decide +kernel))]; exact I.2.2.2.2.2.2.2.2.2.2.2.2.2.2.2.2.2.2.2.2.2.2.1), ((K.2.1 (0, 8) (by decide +kernel)).trans (I.2.2.2.2.2.2.2.2.2.2.2.2.2.2.2.2.2.2.2.2.2.2.2.1.trans (K.2.1 (115, 34) (by decide +kernel)).symm)), (xGR_fr I.2.2.2.2.2.2.2.2.2.2.2.2.2.2.2.2.2.2.2.2.2.2.2.2.1 K.2.1 (by decide +kernel) (by decide +kernel)), (xGR_fr I.2.2.2.2.2.2.2.2.2.2.2.2.2.2.2.2.2.2.2.2.2.2.2.2.2.1 K.2.1 (by decide +kernel) (by decide +kernel)), (xGR_fr I.2.2.2.2.2.2.2.2.2.2.2.2.2.2.2.2.2.2.2.2.2.2.2.2.2.2.1 K.2.1 (by decide +kernel) (by decide +kernel)), xgf_ra a4 b4 (by decide), (xts_fr I.2.2.2.2.2.2.2.2.2.2.2.2.2.2.2.2.2.2.2.2.2.2.2.2.2.2.2.2.1 (fun l hl => K.2.1 l (xk_el (by decide +kernel) hl))), ((K.2.1 (63, 3) (by decide +kernel)).trans I.2.2.2.2.2.2.2.2.2.2.2.2.2.2.2.2.2.2.2.2.2.2.2.2.2.2.2.2.2)⟩
