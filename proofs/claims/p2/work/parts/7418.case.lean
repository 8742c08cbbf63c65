set_option maxHeartbeats 8000000 in
theorem lc_13 {J : xe_J} {ov : List (List Int32)} (hJ : ∀ d mj as h, mj ≠ xe_loff → J d mj as h = none) (hov1 : ov[1]? = some [10, 0, 0, 0, 0, 0]) (hov2 : ov[2]? = some [99, 30, 50, 50, 1, 99999]) {xs : List Int32} (hov0 : ov[0]? = some xs) {Q : Option Value → xe_H → Prop} {h : xe_H} {x4 : Int32} (hi0 : 0 ≤ x4.toInt) (hi1 : x4.toInt + 6 ≤ xs.length) (hi2 : x4.toInt ≤ 3066) (T : xt h) (I : xI h) (kk : ∀ (i : Int32) (h' : xe_H), i.toInt = x4.toInt + 6 → xk xP_28 h h' → xI h' → xw J ov 100 195 (23, [(4, .int i), (3, .ref 167), (2, .ref 115), (1, .ref 0), (0, .ref 1000000)], [], h') Q) : xw J ov 100 195 (765, [(4, .int x4), (3, .ref 167), (2, .ref 115), (1, .ref 0), (0, .ref 1000000)], [], h) Q := by
  have K : xk xP_28 h h := xk_re T
  have KR : xk xP_27 h h := xk_re T
  obtain ⟨C, s0, hr, hrb, CX0, CM0, hC, hT, hs0, ⟨Xh, XW, X6, XB⟩, Mh, MW, M5, MS⟩ := xI_hour T I
  obtain ⟨u1, u2, bu1, bu2, A3⟩ := xq_0 K.1
  have hfu2 : u2.toInt = hr := xfi_ld Xh A3 rfl
  obtain ⟨u4, u5, u6, u7, u8, u9, u10, u11, u12, u13, u14, u15, u16, bu4, bu5, bu6, bu7, bu8, bu9, bu10, bu11, bu12, bu13, bu14, bu15, bu16, A17⟩ := xq_115 K.1
  have hfu5 : u5.toInt = hr := xfi_ld Mh A17 rfl
  refine xi_aload_n (pc' := 766) (x := 0) kc_195_765 rfl rfl ?_
  refine xi_aload_n (pc' := 767) (x := 1000000) kc_195_766 rfl rfl ?_
  refine xi_iload (pc' := 769) (x := x4) kc_195_767 rfl rfl ?_
  refine xi_iconst (pc' := 770) (v := 1) kc_195_769 rfl rfl ?_
  obtain ⟨v18, ev18⟩ : ∃ q : Int32, x4 + 1 = q := ⟨_, rfl⟩
  have zv18 : v18.toInt = (x4.toInt + 1) := by rw [← ev18]; exact (xz_add (X := x4.toInt) (Y := 1) rfl (by decide) (by omega) (by omega)).trans (by omega)
  refine xi_iadd (pc' := 771) (v := v18) kc_195_770 rfl ev18 ?_
  obtain ⟨a19, ea19⟩ : ∃ q : Int32, xs.getD (Int32.toNatClampNeg v18) 0 = q := ⟨_, rfl⟩
  have ra19 := xc_rng a19
  refine xi_ialoadO (pc' := 772) (v := a19) kc_195_771 rfl (by decide) hov0 (xi_in (by omega) (by omega)) ea19 ?_
  refine xi_virtual (mj := 121) (as := [.int a19]) (st1 := []) (lv0 := [(0, .ref 0), (1, .int a19)]) kc_195_772 rfl rfl rfl rfl rfl A3 (Nat.le_of_ble_eq_true rfl) (hJ _ _ _ _ (by decide)) (xm_le ml_121 rfl) rfl ?_
  refine xi_iload_n (pc' := 1) (x := a19) kc_121_0 rfl rfl ?_
  refine xi_iconst (pc' := 2) (v := 1) kc_121_1 rfl rfl ?_
  by_cases c20 : 1 ≤ a19.toInt
  · refine xi_cmt (pc' := 12) kc_121_2 rfl (xc_ge_t (X := a19.toInt) (Y := 1) rfl (by decide) (by omega)) ?_
    refine xi_iload_n (pc' := 13) (x := a19) kc_121_12 rfl rfl ?_
    refine xi_sipush (pc' := 16) (v := 600) kc_121_13 rfl rfl ?_
    refine xi_aload_n (pc' := 17) (x := 0) kc_121_16 rfl rfl ?_
    refine xi_getfield (pc' := 20) (v := .int u2) kc_121_17 rfl rfl rfl A3 rfl ?_
    obtain ⟨v21, ev21⟩ : ∃ q : Int32, 600 - u2 = q := ⟨_, rfl⟩
    have zv21 : v21.toInt = ((-1) * u2.toInt + 600) := by rw [← ev21]; exact (xz_sub (X := 600) (Y := u2.toInt) (by decide) rfl (by omega) (by omega)).trans (by omega)
    refine xi_isub (pc' := 21) (v := v21) kc_121_20 rfl ev21 ?_
    by_cases c22 : a19.toInt ≤ ((-1) * u2.toInt + 600)
    · refine xi_cmt (pc' := 31) kc_121_21 rfl (xc_le_t (X := a19.toInt) (Y := ((-1) * u2.toInt + 600)) rfl zv21 (by omega)) ?_
      refine xi_aload_n (pc' := 32) (x := 0) kc_121_31 rfl rfl ?_
      refine xi_getfield (pc' := 35) (v := .ref 66) kc_121_32 rfl rfl rfl A3 rfl ?_
      obtain ⟨u24, wl23, bu24, A25⟩ := xq_66 K.1
      refine xi_virtual (mj := 91) (as := []) (st1 := []) (lv0 := [(0, .ref 66)]) kc_121_35 rfl rfl rfl rfl rfl A25 (Nat.le_of_ble_eq_true rfl) (hJ _ _ _ _ (by decide)) (xm_le ml_91 rfl) rfl ?_
      refine xi_aload_n (pc' := 1) (x := 66) kc_91_0 rfl rfl ?_
      refine xi_lconst (pc' := 2) (v := 0) kc_91_1 rfl rfl ?_
      refine xi_putfield (pc' := 5) (fs' := [.ref 1, .ref 67, .ref 70, .ref 71, .ref 72, .ref 73, .ref 74, .long 0, .int u24]) kc_91_2 rfl rfl rfl A25 rfl rfl rfl (Nat.le_of_ble_eq_true rfl) rfl (fun hh27 eh26 => ?_)
      have K28 := xk_pl (k := 7) (v := 0) K (xk_wf (by decide +kernel)) xD_66 A25 rfl eh26 rfl
      have KR29 := xk_pl (k := 7) (v := 0) KR (xk_wf (by decide +kernel)) xD_66 A25 rfl eh26 rfl
      refine xi_return kc_91_5 mr_91 ?_
      show xw J ov 99 121 (38, [(0, .ref 0), (1, .int a19)], [], hh27) _
      refine xi_iconst (pc' := 39) (v := 0) kc_121_38 rfl rfl ?_
      refine xi_istore_n (pc' := 40) (lv' := [(2, .int 0), (0, .ref 0), (1, .int a19)]) kc_121_39 rfl rfl (xm_lt ml_121 rfl) ?_
      refine xw_lv (b := [(0, .ref 0), (1, .int a19), (2, .int 0)]) (lvS_cons (lvS_cons (lvS_cons (lvS_nil (show ([2, 0, 1] : List Nat).Nodup by decide)) rfl) rfl) rfl) ?_
      have F30 := xfi_fr Xh (xl_c (eh26.2.1 0 (by decide)))
      have F31 := xra_fr XW (xl_c (eh26.2.1 64 (by decide)))
      have F32 := xg6_c X6 (fun c hc => eh26.2.1 c (Ne.symm (xk_nc hc rfl)))
      have F33 := xgf_kp XB (fun c hc => eh26.2.1 c (Ne.symm (xk_nc hc rfl)))
      have F34 := xfi_fr Mh (xl_c (eh26.2.1 115 (by decide)))
      have F35 := xra_fr MW (xl_c (eh26.2.1 121 (by decide)))
      have F36 := xr5_c M5 (fun c hc => eh26.2.1 c (Ne.symm (xk_nc hc rfl)))
      have F37 := xra_fr MS (xl_c (eh26.2.1 148 (by decide)))
      have zc0 : (0 : Int32).toInt = 0 := by decide
      refine hx_lp hJ hov1 hov2 (d := 91) (s := s0) (hr := hr) (x1 := a19) (xcX_k CX0 K28 (by decide +kernel)) hC hs0 (by omega) (by omega) (fun r38 hh39 hr38 K40 F41 F42 F43 F44 => ?_) 601 0 hh27 (by omega) (xk_re K28.1) (by rw [(show Int32.toNatClampNeg 0 = 0 by decide)]; exact xfi_e F30 (by omega)) (by rw [(show Int32.toNatClampNeg 0 = 0 by decide)]; exact F31) (by rw [(show Int32.toNatClampNeg 0 = 0 by decide)]; exact F32) (by rw [(show Int32.toNatClampNeg 0 = 0 by decide)]; exact F33) (by omega)
      have rr38 := xc_rng r38
      have F45 := xfi_fr F34 (K40.2.1 (115, 1) (by decide +kernel))
      have F46 := xra_fr F35 (K40.2.1 (121, 0) (by decide +kernel))
      have F47 := xr5_k F36 K40 (by decide +kernel)
      have F48 := xra_fr F37 (K40.2.1 (148, 0) (by decide +kernel))
      have A49 := ((eh26.2.1 0 (by decide)).trans A3)
      have A50 := ((eh26.2.1 115 (by decide)).trans A17)
      have K51 := xk_tr K28 K40 (xsb_ok _ _ (by decide +kernel))
      obtain ⟨u52, u53, bu52, bu53, A54⟩ := xq_0 K51.1
      have hfu53 : u53.toInt = (hr + ((Int32.toNatClampNeg a19 : Nat) : Int)) := xfi_ld F41 A54 rfl
      have e55 : u1 = u52 := xk_eqi (q := 8) K40 (by decide +kernel) A49 A54 rfl rfl
      subst e55
      obtain ⟨u56, u57, u58, u59, u60, u61, u62, u63, u64, u65, u66, u67, u68, bu56, bu57, bu58, bu59, bu60, bu61, bu62, bu63, bu64, bu65, bu66, bu67, bu68, A69⟩ := xq_115 K51.1
      have hfu57 : u57.toInt = hr := xfi_ld F45 A69 rfl
      have e70 : u5 = u57 := xk_eqi (q := 1) K40 (by decide +kernel) A50 A69 rfl rfl
      subst e70
      have e71 : u8 = u60 := xk_eqi (q := 23) K40 (by decide +kernel) A50 A69 rfl rfl
      subst e71
      have e72 : u11 = u63 := xk_eqi (q := 34) K40 (by decide +kernel) A50 A69 rfl rfl
      subst e72
      have e73 : u9 = u61 := xk_eqi (q := 32) K40 (by decide +kernel) A50 A69 rfl rfl
      subst e73
      show xw J ov 100 195 (775, [(4, .int x4), (3, .ref 167), (2, .ref 115), (1, .ref 0), (0, .ref 1000000)], [.int r38], hh39) _
      refine xi_pop (pc' := 776) kc_195_775 rfl rfl ?_
      refine xi_aload_n (pc' := 777) (x := 115) kc_195_776 rfl rfl ?_
      refine xi_aload_n (pc' := 778) (x := 1000000) kc_195_777 rfl rfl ?_
      refine xi_iload (pc' := 780) (x := x4) kc_195_778 rfl rfl ?_
      refine xi_iconst (pc' := 781) (v := 1) kc_195_780 rfl rfl ?_
      refine xi_iadd (pc' := 782) (v := v18) kc_195_781 rfl ev18 ?_
      refine xi_ialoadO (pc' := 783) (v := a19) kc_195_782 rfl (by decide) hov0 (xi_in (by omega) (by omega)) ea19 ?_
      refine xi_virtual (mj := 34) (as := [.int a19]) (st1 := []) (lv0 := [(0, .ref 115), (1, .int a19)]) kc_195_783 rfl rfl rfl rfl rfl A69 (Nat.le_of_ble_eq_true rfl) (hJ _ _ _ _ (by decide)) (xm_le ml_34 rfl) rfl ?_
      refine xi_aload_n (pc' := 1) (x := 115) kc_34_0 rfl rfl ?_
      refine xi_iconst (pc' := 2) (v := 0) kc_34_1 rfl rfl ?_
      refine xi_putfield (pc' := 5) (fs' := [.int 0, .int u5, .ref 116, .ref 117, .ref 118, .ref 119, .ref 120, .ref 121, .ref 122, .ref 123, .ref 124, .ref 125, .ref 126, .ref 127, .ref 128, .ref 129, .int u58, .ref 130, .int u59, .ref 131, .ref 132, .ref 133, .ref 134, .int u8, .ref 135, .ref 136, .ref 137, .ref 138, .ref 139, .ref 140, .ref 141, .ref 142, .int u9, .int u62, .int u11, .ref 143, .ref 144, .ref 145, .ref 146, .ref 147, .ref 148, .int u64, .ref 149, .ref 150, .ref 151, .int u65, .ref 152, .ref 153, .ref 154, .ref 155, .ref 156, .ref 157, .ref 158, .ref 159, .int u66, .ref 160, .int u67, .ref 161, .ref 162, .ref 163, .ref 164, .int u68, .ref 165, .ref 166]) kc_34_2 rfl rfl rfl A69 rfl rfl rfl (Nat.le_of_ble_eq_true rfl) rfl (fun hh75 eh74 => ?_)
      have K76 := xk_pf (k := 0) (v := 0) K51 (xk_wf (by decide +kernel)) xD_115 A69 rfl (by first | omega | decide) (by first | omega | decide) eh74 rfl
      refine xi_iload_n (pc' := 6) (x := a19) kc_34_5 rfl rfl ?_
      refine xi_iconst (pc' := 7) (v := 1) kc_34_6 rfl rfl ?_
      refine xi_cmt (pc' := 17) kc_34_7 rfl (xc_ge_t (X := a19.toInt) (Y := 1) rfl (by decide) (by omega)) ?_
      refine xi_iload_n (pc' := 18) (x := a19) kc_34_17 rfl rfl ?_
      refine xi_sipush (pc' := 21) (v := 600) kc_34_18 rfl rfl ?_
      refine xi_aload_n (pc' := 22) (x := 115) kc_34_21 rfl rfl ?_
      refine xi_getfield (pc' := 25) (v := .int u5) kc_34_22 rfl rfl rfl eh74.1 rfl ?_
      obtain ⟨v77, ev77⟩ : ∃ q : Int32, 600 - u5 = q := ⟨_, rfl⟩
      have zv77 : v77.toInt = ((-1) * u5.toInt + 600) := by rw [← ev77]; exact (xz_sub (X := 600) (Y := u5.toInt) (by decide) rfl (by omega) (by omega)).trans (by omega)
      refine xi_isub (pc' := 26) (v := v77) kc_34_25 rfl ev77 ?_
      by_cases c78 : a19.toInt ≤ ((-1) * u5.toInt + 600)
      · refine xi_cmt (pc' := 36) kc_34_26 rfl (xc_le_t (X := a19.toInt) (Y := ((-1) * u5.toInt + 600)) rfl zv77 (by omega)) ?_
        refine xi_iconst (pc' := 37) (v := 0) kc_34_36 rfl rfl ?_
        refine xi_istore_n (pc' := 38) (lv' := [(2, .int 0), (0, .ref 115), (1, .int a19)]) kc_34_37 rfl rfl (xm_lt ml_34 rfl) ?_
        refine xw_lv (b := [(0, .ref 115), (1, .int a19), (2, .int 0)]) (lvS_cons (lvS_cons (lvS_cons (lvS_nil (show ([2, 0, 1] : List Nat).Nodup by decide)) rfl) rfl) rfl) ?_
        have F79 := xfi_fr F41 (xl_c (eh74.2.1 0 (by decide)))
        have F80 := xra_fr F42 (xl_c (eh74.2.1 64 (by decide)))
        have F81 := xg6_c F43 (fun c hc => eh74.2.1 c (Ne.symm (xk_nc hc rfl)))
        have F82 := xgf_kp F44 (fun c hc => eh74.2.1 c (Ne.symm (xk_nc hc rfl)))
        have F83 : xfi _ 115 1 hr := xfi_mk eh74.1 rfl (by omega)
        have F84 := xra_fr F46 (xl_c (eh74.2.1 121 (by decide)))
        have F85 := xr5_c F47 (fun c hc => eh74.2.1 c (Ne.symm (xk_nc hc rfl)))
        have F86 := xra_fr F48 (xl_c (eh74.2.1 148 (by decide)))
        have zc0 : (0 : Int32).toInt = 0 := by decide
        refine hm_lp hJ hov1 hov2 (d := 91) (s := s0) (hr := hr) (x1 := a19) (xcM_k CM0 K76 (by decide +kernel)) hC hT hs0 (by omega) (by omega) (fun r87 hh88 hr87 K89 F90 F91 F92 F93 => ?_) 601 0 hh75 (by omega) (xk_re K76.1) (by rw [(show Int32.toNatClampNeg 0 = 0 by decide)]; exact xfi_e F83 (by omega)) (by rw [(show Int32.toNatClampNeg 0 = 0 by decide)]; exact F84) (by rw [(show Int32.toNatClampNeg 0 = 0 by decide)]; exact F85) (by rw [(show Int32.toNatClampNeg 0 = 0 by decide)]; exact F86) (by omega)
        have rr87 := xc_rng r87
        have F94 := xfi_fr F79 (K89.2.1 (0, 9) (by decide +kernel))
        have F95 := xra_fr F80 (K89.2.1 (64, 0) (by decide +kernel))
        have F96 := xg6_k F81 K89 (by decide +kernel)
        have F97 := xgf_fr F82 K89.2.1 (by decide +kernel)
        have A98 := ((eh74.2.1 0 (by decide)).trans A54)
        have K99 := xk_tr K76 K89 (xsb_ok _ _ (by decide +kernel))
        obtain ⟨u100, u101, bu100, bu101, A102⟩ := xq_0 K99.1
        have hfu101 : u101.toInt = (hr + ((Int32.toNatClampNeg a19 : Nat) : Int)) := xfi_ld F94 A102 rfl
        have e103 : u53 = u101 := xk_eqi (q := 9) K89 (by decide +kernel) A98 A102 rfl rfl
        subst e103
        have e104 : u1 = u100 := xk_eqi (q := 8) K89 (by decide +kernel) A98 A102 rfl rfl
        subst e104
        obtain ⟨u105, u106, u107, u108, u109, u110, u111, u112, u113, u114, u115, u116, u117, bu105, bu106, bu107, bu108, bu109, bu110, bu111, bu112, bu113, bu114, bu115, bu116, bu117, A118⟩ := xq_115 K99.1
        have hfu106 : u106.toInt = (hr + ((Int32.toNatClampNeg a19 : Nat) : Int)) := xfi_ld F90 A118 rfl
        have e119 : u8 = u109 := xk_eqi (q := 23) K89 (by decide +kernel) eh74.1 A118 rfl rfl
        subst e119
        have e120 : u11 = u112 := xk_eqi (q := 34) K89 (by decide +kernel) eh74.1 A118 rfl rfl
        subst e120
        show xw J ov 100 195 (786, [(4, .int x4), (3, .ref 167), (2, .ref 115), (1, .ref 0), (0, .ref 1000000)], [.int r87], hh88) _
        refine xi_pop (pc' := 787) kc_195_786 rfl rfl ?_
        refine xi_goto (pc' := 1501) kc_195_787 rfl ?_
        obtain ⟨v121, ev121⟩ : ∃ q : Int32, x4 + 6 = q := ⟨_, rfl⟩
        have zv121 : v121.toInt = (x4.toInt + 6) := by rw [← ev121]; exact (xz_add (X := x4.toInt) (Y := 6) rfl (by decide) (by omega) (by omega)).trans (by omega)
        refine xi_iinc (pc' := 1504) (x := x4) (v := v121) (lv' := [(4, .int v121), (3, .ref 167), (2, .ref 115), (1, .ref 0), (0, .ref 1000000)]) kc_195_1501 rfl rfl ev121 rfl (xm_lt ml_195 rfl) ?_
        refine xi_goto (pc' := 23) kc_195_1504 rfl ?_
        exact kk v121 hh88 (by omega) K99 (xI_of_hour I K99 (xrun_r hC hs0 hrb.1 (Int32.toNatClampNeg a19) (by have := xj_tn (i := a19) (by omega); omega)) F94 F95 F96 F97 F90 F91 F92 F93)
      · refine xi_cmf (pc' := 29) kc_34_26 rfl (xc_le_f (X := a19.toInt) (Y := ((-1) * u5.toInt + 600)) rfl zv77 (by omega)) ?_
        refine xi_aload_n (pc' := 30) (x := 115) kc_34_29 rfl rfl ?_
        refine xi_bipush (pc' := 32) (v := (-6)) kc_34_30 rfl rfl ?_
        refine xi_virtual (mj := 12) (as := [.int (-6)]) (st1 := []) (lv0 := [(0, .ref 115), (1, .int (-6))]) kc_34_32 rfl rfl rfl rfl rfl eh74.1 (Nat.le_of_ble_eq_true rfl) (hJ _ _ _ _ (by decide)) (xm_le ml_12 rfl) rfl ?_
        refine xi_aload_n (pc' := 1) (x := 115) kc_12_0 rfl rfl ?_
        refine xi_getfield (pc' := 4) (v := .ref 140) kc_12_1 rfl rfl rfl eh74.1 rfl ?_
        refine xi_iload_n (pc' := 5) (x := (-6)) kc_12_4 rfl rfl ?_
        refine xi_ineg (pc' := 6) (v := 6) kc_12_5 rfl rfl ?_
        refine xi_dup2 (pc' := 7) kc_12_6 rfl ⟨rfl, rfl⟩ ?_
        obtain ⟨y122, A122, hy122, ry122⟩ := xk_arr K76.1 xD_140
        obtain ⟨v123, ev123, bv123, dv123⟩ := xj_get hy122 ry122 (i := 6) (by decide) (by decide)
        refine xi_iaload (pc' := 8) (v := v123) kc_12_7 rfl A122 (by decide) rfl (xi_in (by decide) (by rw [hy122]; decide)) ev123 ?_
        refine xi_iconst (pc' := 9) (v := 1) kc_12_8 rfl rfl ?_
        obtain ⟨v124, ev124⟩ : ∃ q : Int32, (v123 : Int32) + 1 = q := ⟨_, rfl⟩
        have rv124 := xc_rng v124
        refine xi_iadd (pc' := 10) (v := v124) kc_12_9 rfl ev124 ?_
        obtain ⟨y125, s125, hy125, ry125⟩ := xj_set (v := v124) hy122 ry122 6 (by first | omega | decide) (by first | omega | decide)
        refine xi_iastore (pc' := 11) (x' := y125) kc_12_10 rfl A122 rfl (xi_in (by decide) (by rw [hy122]; decide)) s125 (fun hh125 eh125 => ?_)
        have K126 := xk_pa K76 (xk_wa (by decide +kernel)) xD_140 hy125 ry125 eh125
        refine xi_iload_n (pc' := 12) (x := (-6)) kc_12_11 rfl rfl ?_
        refine xi_ireturn kc_12_12 mr_12 rfl ?_
        show xw J ov 99 34 (35, [(0, .ref 115), (1, .int a19)], [.int (-6)], hh125) _
        refine xi_ireturn kc_34_35 mr_34 rfl ?_
        show xw J ov 100 195 (786, [(4, .int x4), (3, .ref 167), (2, .ref 115), (1, .ref 0), (0, .ref 1000000)], [.int (-6)], hh125) _
        refine xi_pop (pc' := 787) kc_195_786 rfl rfl ?_
        refine xi_goto (pc' := 1501) kc_195_787 rfl ?_
        obtain ⟨v127, ev127⟩ : ∃ q : Int32, x4 + 6 = q := ⟨_, rfl⟩
        have zv127 : v127.toInt = (x4.toInt + 6) := by rw [← ev127]; exact (xz_add (X := x4.toInt) (Y := 6) rfl (by decide) (by omega) (by omega)).trans (by omega)
        refine xi_iinc (pc' := 1504) (x := x4) (v := v127) (lv' := [(4, .int v127), (3, .ref 167), (2, .ref 115), (1, .ref 0), (0, .ref 1000000)]) kc_195_1501 rfl rfl ev127 rfl (xm_lt ml_195 rfl) ?_
        refine xi_goto (pc' := 23) kc_195_1504 rfl ?_
        exfalso; omega
    · refine xi_cmf (pc' := 24) kc_121_21 rfl (xc_le_f (X := a19.toInt) (Y := ((-1) * u2.toInt + 600)) rfl zv21 (by omega)) ?_
      refine xi_aload_n (pc' := 25) (x := 0) kc_121_24 rfl rfl ?_
      refine xi_bipush (pc' := 27) (v := (-6)) kc_121_25 rfl rfl ?_
      refine xi_virtual (mj := 90) (as := [.int (-6)]) (st1 := []) (lv0 := [(0, .ref 0), (1, .int (-6))]) kc_121_27 rfl rfl rfl rfl rfl A3 (Nat.le_of_ble_eq_true rfl) (hJ _ _ _ _ (by decide)) (xm_le ml_90 rfl) rfl ?_
      refine xi_iload_n (pc' := 1) (x := (-6)) kc_90_0 rfl rfl ?_
      refine xi_ineg (pc' := 2) (v := 6) kc_90_1 rfl rfl ?_
      refine xi_istore_n (pc' := 3) (lv' := [(2, .int 6), (0, .ref 0), (1, .int (-6))]) kc_90_2 rfl rfl (xm_lt ml_90 rfl) ?_
      refine xi_iload_n (pc' := 4) (x := 6) kc_90_3 rfl rfl ?_
      refine xi_iff (pc' := 7) kc_90_4 rfl rfl ?_
      refine xi_iload_n (pc' := 8) (x := 6) kc_90_7 rfl rfl ?_
      refine xi_aload_n (pc' := 9) (x := 0) kc_90_8 rfl rfl ?_
      refine xi_getfield (pc' := 12) (v := .ref 94) kc_90_9 rfl rfl rfl A3 rfl ?_
      obtain ⟨y128, A128, hy128, ry128⟩ := xk_arr K.1 xD_94
      refine xi_arraylength (pc' := 13) (n := 7) (v := 7) kc_90_12 rfl (xl_lenI (by decide) (by decide) A128 hy128) rfl ?_
      refine xi_cmf (pc' := 16) kc_90_13 rfl rfl ?_
      refine xi_aload_n (pc' := 17) (x := 0) kc_90_16 rfl rfl ?_
      refine xi_getfield (pc' := 20) (v := .ref 94) kc_90_17 rfl rfl rfl A3 rfl ?_
      refine xi_iload_n (pc' := 21) (x := 6) kc_90_20 rfl rfl ?_
      refine xi_dup2 (pc' := 22) kc_90_21 rfl ⟨rfl, rfl⟩ ?_
      obtain ⟨v129, ev129, bv129, dv129⟩ := xj_get hy128 ry128 (i := 6) (by decide) (by decide)
      refine xi_iaload (pc' := 23) (v := v129) kc_90_22 rfl A128 (by decide) rfl (xi_in (by decide) (by rw [hy128]; decide)) ev129 ?_
      refine xi_iconst (pc' := 24) (v := 1) kc_90_23 rfl rfl ?_
      obtain ⟨v130, ev130⟩ : ∃ q : Int32, (v129 : Int32) + 1 = q := ⟨_, rfl⟩
      have rv130 := xc_rng v130
      refine xi_iadd (pc' := 25) (v := v130) kc_90_24 rfl ev130 ?_
      obtain ⟨y131, s131, hy131, ry131⟩ := xj_set (v := v130) hy128 ry128 6 (by first | omega | decide) (by first | omega | decide)
      refine xi_iastore (pc' := 26) (x' := y131) kc_90_25 rfl A128 rfl (xi_in (by decide) (by rw [hy128]; decide)) s131 (fun hh131 eh131 => ?_)
      have K132 := xk_pa K (xk_wa (by decide +kernel)) xD_94 hy131 ry131 eh131
      have KR133 := xk_pa KR (xk_wa (by decide +kernel)) xD_94 hy131 ry131 eh131
      refine xi_iload_n (pc' := 27) (x := (-6)) kc_90_26 rfl rfl ?_
      refine xi_ireturn kc_90_27 mr_90 rfl ?_
      show xw J ov 99 121 (30, [(0, .ref 0), (1, .int a19)], [.int (-6)], hh131) _
      refine xi_ireturn kc_121_30 mr_121 rfl ?_
      show xw J ov 100 195 (775, [(4, .int x4), (3, .ref 167), (2, .ref 115), (1, .ref 0), (0, .ref 1000000)], [.int (-6)], hh131) _
      refine xi_pop (pc' := 776) kc_195_775 rfl rfl ?_
      refine xi_aload_n (pc' := 777) (x := 115) kc_195_776 rfl rfl ?_
      refine xi_aload_n (pc' := 778) (x := 1000000) kc_195_777 rfl rfl ?_
      refine xi_iload (pc' := 780) (x := x4) kc_195_778 rfl rfl ?_
      refine xi_iconst (pc' := 781) (v := 1) kc_195_780 rfl rfl ?_
      refine xi_iadd (pc' := 782) (v := v18) kc_195_781 rfl ev18 ?_
      refine xi_ialoadO (pc' := 783) (v := a19) kc_195_782 rfl (by decide) hov0 (xi_in (by omega) (by omega)) ea19 ?_
      have A134 := ((eh131.2.1 115 (by decide)).trans A17)
      refine xi_virtual (mj := 34) (as := [.int a19]) (st1 := []) (lv0 := [(0, .ref 115), (1, .int a19)]) kc_195_783 rfl rfl rfl rfl rfl A134 (Nat.le_of_ble_eq_true rfl) (hJ _ _ _ _ (by decide)) (xm_le ml_34 rfl) rfl ?_
      refine xi_aload_n (pc' := 1) (x := 115) kc_34_0 rfl rfl ?_
      refine xi_iconst (pc' := 2) (v := 0) kc_34_1 rfl rfl ?_
      refine xi_putfield (pc' := 5) (fs' := [.int 0, .int u5, .ref 116, .ref 117, .ref 118, .ref 119, .ref 120, .ref 121, .ref 122, .ref 123, .ref 124, .ref 125, .ref 126, .ref 127, .ref 128, .ref 129, .int u6, .ref 130, .int u7, .ref 131, .ref 132, .ref 133, .ref 134, .int u8, .ref 135, .ref 136, .ref 137, .ref 138, .ref 139, .ref 140, .ref 141, .ref 142, .int u9, .int u10, .int u11, .ref 143, .ref 144, .ref 145, .ref 146, .ref 147, .ref 148, .int u12, .ref 149, .ref 150, .ref 151, .int u13, .ref 152, .ref 153, .ref 154, .ref 155, .ref 156, .ref 157, .ref 158, .ref 159, .int u14, .ref 160, .int u15, .ref 161, .ref 162, .ref 163, .ref 164, .int u16, .ref 165, .ref 166]) kc_34_2 rfl rfl rfl A134 rfl rfl rfl (Nat.le_of_ble_eq_true rfl) rfl (fun hh136 eh135 => ?_)
      have K137 := xk_pf (k := 0) (v := 0) K132 (xk_wf (by decide +kernel)) xD_115 A134 rfl (by first | omega | decide) (by first | omega | decide) eh135 rfl
      have KR138 := xk_pf (k := 0) (v := 0) KR133 (xk_wf (by decide +kernel)) xD_115 A134 rfl (by first | omega | decide) (by first | omega | decide) eh135 rfl
      refine xi_iload_n (pc' := 6) (x := a19) kc_34_5 rfl rfl ?_
      refine xi_iconst (pc' := 7) (v := 1) kc_34_6 rfl rfl ?_
      refine xi_cmt (pc' := 17) kc_34_7 rfl (xc_ge_t (X := a19.toInt) (Y := 1) rfl (by decide) (by omega)) ?_
      refine xi_iload_n (pc' := 18) (x := a19) kc_34_17 rfl rfl ?_
      refine xi_sipush (pc' := 21) (v := 600) kc_34_18 rfl rfl ?_
      refine xi_aload_n (pc' := 22) (x := 115) kc_34_21 rfl rfl ?_
      refine xi_getfield (pc' := 25) (v := .int u5) kc_34_22 rfl rfl rfl eh135.1 rfl ?_
      obtain ⟨v139, ev139⟩ : ∃ q : Int32, 600 - u5 = q := ⟨_, rfl⟩
      have zv139 : v139.toInt = ((-1) * u5.toInt + 600) := by rw [← ev139]; exact (xz_sub (X := 600) (Y := u5.toInt) (by decide) rfl (by omega) (by omega)).trans (by omega)
      refine xi_isub (pc' := 26) (v := v139) kc_34_25 rfl ev139 ?_
      by_cases c140 : a19.toInt ≤ ((-1) * u5.toInt + 600)
      · refine xi_cmt (pc' := 36) kc_34_26 rfl (xc_le_t (X := a19.toInt) (Y := ((-1) * u5.toInt + 600)) rfl zv139 (by omega)) ?_
        refine xi_iconst (pc' := 37) (v := 0) kc_34_36 rfl rfl ?_
        refine xi_istore_n (pc' := 38) (lv' := [(2, .int 0), (0, .ref 115), (1, .int a19)]) kc_34_37 rfl rfl (xm_lt ml_34 rfl) ?_
        exfalso; omega
      · refine xi_cmf (pc' := 29) kc_34_26 rfl (xc_le_f (X := a19.toInt) (Y := ((-1) * u5.toInt + 600)) rfl zv139 (by omega)) ?_
        refine xi_aload_n (pc' := 30) (x := 115) kc_34_29 rfl rfl ?_
        refine xi_bipush (pc' := 32) (v := (-6)) kc_34_30 rfl rfl ?_
        refine xi_virtual (mj := 12) (as := [.int (-6)]) (st1 := []) (lv0 := [(0, .ref 115), (1, .int (-6))]) kc_34_32 rfl rfl rfl rfl rfl eh135.1 (Nat.le_of_ble_eq_true rfl) (hJ _ _ _ _ (by decide)) (xm_le ml_12 rfl) rfl ?_
        refine xi_aload_n (pc' := 1) (x := 115) kc_12_0 rfl rfl ?_
        refine xi_getfield (pc' := 4) (v := .ref 140) kc_12_1 rfl rfl rfl eh135.1 rfl ?_
        refine xi_iload_n (pc' := 5) (x := (-6)) kc_12_4 rfl rfl ?_
        refine xi_ineg (pc' := 6) (v := 6) kc_12_5 rfl rfl ?_
        refine xi_dup2 (pc' := 7) kc_12_6 rfl ⟨rfl, rfl⟩ ?_
        obtain ⟨y141, A141, hy141, ry141⟩ := xk_arr K137.1 xD_140
        obtain ⟨v142, ev142, bv142, dv142⟩ := xj_get hy141 ry141 (i := 6) (by decide) (by decide)
        refine xi_iaload (pc' := 8) (v := v142) kc_12_7 rfl A141 (by decide) rfl (xi_in (by decide) (by rw [hy141]; decide)) ev142 ?_
        refine xi_iconst (pc' := 9) (v := 1) kc_12_8 rfl rfl ?_
        obtain ⟨v143, ev143⟩ : ∃ q : Int32, (v142 : Int32) + 1 = q := ⟨_, rfl⟩
        have rv143 := xc_rng v143
        refine xi_iadd (pc' := 10) (v := v143) kc_12_9 rfl ev143 ?_
        obtain ⟨y144, s144, hy144, ry144⟩ := xj_set (v := v143) hy141 ry141 6 (by first | omega | decide) (by first | omega | decide)
        refine xi_iastore (pc' := 11) (x' := y144) kc_12_10 rfl A141 rfl (xi_in (by decide) (by rw [hy141]; decide)) s144 (fun hh144 eh144 => ?_)
        have K145 := xk_pa K137 (xk_wa (by decide +kernel)) xD_140 hy144 ry144 eh144
        have KR146 := xk_pa KR138 (xk_wa (by decide +kernel)) xD_140 hy144 ry144 eh144
        refine xi_iload_n (pc' := 12) (x := (-6)) kc_12_11 rfl rfl ?_
        refine xi_ireturn kc_12_12 mr_12 rfl ?_
        show xw J ov 99 34 (35, [(0, .ref 115), (1, .int a19)], [.int (-6)], hh144) _
        refine xi_ireturn kc_34_35 mr_34 rfl ?_
        show xw J ov 100 195 (786, [(4, .int x4), (3, .ref 167), (2, .ref 115), (1, .ref 0), (0, .ref 1000000)], [.int (-6)], hh144) _
        refine xi_pop (pc' := 787) kc_195_786 rfl rfl ?_
        refine xi_goto (pc' := 1501) kc_195_787 rfl ?_
        obtain ⟨v147, ev147⟩ : ∃ q : Int32, x4 + 6 = q := ⟨_, rfl⟩
        have zv147 : v147.toInt = (x4.toInt + 6) := by rw [← ev147]; exact (xz_add (X := x4.toInt) (Y := 6) rfl (by decide) (by omega) (by omega)).trans (by omega)
        refine xi_iinc (pc' := 1504) (x := x4) (v := v147) (lv' := [(4, .int v147), (3, .ref 167), (2, .ref 115), (1, .ref 0), (0, .ref 1000000)]) kc_195_1501 rfl rfl ev147 rfl (xm_lt ml_195 rfl) ?_
        refine xi_goto (pc' := 23) kc_195_1504 rfl ?_
        exact kk v147 hh144 (by omega) K145 (xI_kept I KR146.2.1)
  · refine xi_cmf (pc' := 5) kc_121_2 rfl (xc_ge_f (X := a19.toInt) (Y := 1) rfl (by decide) (by omega)) ?_
    refine xi_aload_n (pc' := 6) (x := 0) kc_121_5 rfl rfl ?_
    refine xi_bipush (pc' := 8) (v := (-4)) kc_121_6 rfl rfl ?_
    refine xi_virtual (mj := 90) (as := [.int (-4)]) (st1 := []) (lv0 := [(0, .ref 0), (1, .int (-4))]) kc_121_8 rfl rfl rfl rfl rfl A3 (Nat.le_of_ble_eq_true rfl) (hJ _ _ _ _ (by decide)) (xm_le ml_90 rfl) rfl ?_
    refine xi_iload_n (pc' := 1) (x := (-4)) kc_90_0 rfl rfl ?_
    refine xi_ineg (pc' := 2) (v := 4) kc_90_1 rfl rfl ?_
    refine xi_istore_n (pc' := 3) (lv' := [(2, .int 4), (0, .ref 0), (1, .int (-4))]) kc_90_2 rfl rfl (xm_lt ml_90 rfl) ?_
    refine xi_iload_n (pc' := 4) (x := 4) kc_90_3 rfl rfl ?_
    refine xi_iff (pc' := 7) kc_90_4 rfl rfl ?_
    refine xi_iload_n (pc' := 8) (x := 4) kc_90_7 rfl rfl ?_
    refine xi_aload_n (pc' := 9) (x := 0) kc_90_8 rfl rfl ?_
    refine xi_getfield (pc' := 12) (v := .ref 94) kc_90_9 rfl rfl rfl A3 rfl ?_
    obtain ⟨y148, A148, hy148, ry148⟩ := xk_arr K.1 xD_94
    refine xi_arraylength (pc' := 13) (n := 7) (v := 7) kc_90_12 rfl (xl_lenI (by decide) (by decide) A148 hy148) rfl ?_
    refine xi_cmf (pc' := 16) kc_90_13 rfl rfl ?_
    refine xi_aload_n (pc' := 17) (x := 0) kc_90_16 rfl rfl ?_
    refine xi_getfield (pc' := 20) (v := .ref 94) kc_90_17 rfl rfl rfl A3 rfl ?_
    refine xi_iload_n (pc' := 21) (x := 4) kc_90_20 rfl rfl ?_
    refine xi_dup2 (pc' := 22) kc_90_21 rfl ⟨rfl, rfl⟩ ?_
    obtain ⟨v149, ev149, bv149, dv149⟩ := xj_get hy148 ry148 (i := 4) (by decide) (by decide)
    refine xi_iaload (pc' := 23) (v := v149) kc_90_22 rfl A148 (by decide) rfl (xi_in (by decide) (by rw [hy148]; decide)) ev149 ?_
    refine xi_iconst (pc' := 24) (v := 1) kc_90_23 rfl rfl ?_
    obtain ⟨v150, ev150⟩ : ∃ q : Int32, (v149 : Int32) + 1 = q := ⟨_, rfl⟩
    have rv150 := xc_rng v150
    refine xi_iadd (pc' := 25) (v := v150) kc_90_24 rfl ev150 ?_
    obtain ⟨y151, s151, hy151, ry151⟩ := xj_set (v := v150) hy148 ry148 4 (by first | omega | decide) (by first | omega | decide)
    refine xi_iastore (pc' := 26) (x' := y151) kc_90_25 rfl A148 rfl (xi_in (by decide) (by rw [hy148]; decide)) s151 (fun hh151 eh151 => ?_)
    have K152 := xk_pa K (xk_wa (by decide +kernel)) xD_94 hy151 ry151 eh151
    have KR153 := xk_pa KR (xk_wa (by decide +kernel)) xD_94 hy151 ry151 eh151
    refine xi_iload_n (pc' := 27) (x := (-4)) kc_90_26 rfl rfl ?_
    refine xi_ireturn kc_90_27 mr_90 rfl ?_
    show xw J ov 99 121 (11, [(0, .ref 0), (1, .int a19)], [.int (-4)], hh151) _
    refine xi_ireturn kc_121_11 mr_121 rfl ?_
    show xw J ov 100 195 (775, [(4, .int x4), (3, .ref 167), (2, .ref 115), (1, .ref 0), (0, .ref 1000000)], [.int (-4)], hh151) _
    refine xi_pop (pc' := 776) kc_195_775 rfl rfl ?_
    refine xi_aload_n (pc' := 777) (x := 115) kc_195_776 rfl rfl ?_
    refine xi_aload_n (pc' := 778) (x := 1000000) kc_195_777 rfl rfl ?_
    refine xi_iload (pc' := 780) (x := x4) kc_195_778 rfl rfl ?_
    refine xi_iconst (pc' := 781) (v := 1) kc_195_780 rfl rfl ?_
    refine xi_iadd (pc' := 782) (v := v18) kc_195_781 rfl ev18 ?_
    refine xi_ialoadO (pc' := 783) (v := a19) kc_195_782 rfl (by decide) hov0 (xi_in (by omega) (by omega)) ea19 ?_
    have A154 := ((eh151.2.1 115 (by decide)).trans A17)
    refine xi_virtual (mj := 34) (as := [.int a19]) (st1 := []) (lv0 := [(0, .ref 115), (1, .int a19)]) kc_195_783 rfl rfl rfl rfl rfl A154 (Nat.le_of_ble_eq_true rfl) (hJ _ _ _ _ (by decide)) (xm_le ml_34 rfl) rfl ?_
    refine xi_aload_n (pc' := 1) (x := 115) kc_34_0 rfl rfl ?_
    refine xi_iconst (pc' := 2) (v := 0) kc_34_1 rfl rfl ?_
    refine xi_putfield (pc' := 5) (fs' := [.int 0, .int u5, .ref 116, .ref 117, .ref 118, .ref 119, .ref 120, .ref 121, .ref 122, .ref 123, .ref 124, .ref 125, .ref 126, .ref 127, .ref 128, .ref 129, .int u6, .ref 130, .int u7, .ref 131, .ref 132, .ref 133, .ref 134, .int u8, .ref 135, .ref 136, .ref 137, .ref 138, .ref 139, .ref 140, .ref 141, .ref 142, .int u9, .int u10, .int u11, .ref 143, .ref 144, .ref 145, .ref 146, .ref 147, .ref 148, .int u12, .ref 149, .ref 150, .ref 151, .int u13, .ref 152, .ref 153, .ref 154, .ref 155, .ref 156, .ref 157, .ref 158, .ref 159, .int u14, .ref 160, .int u15, .ref 161, .ref 162, .ref 163, .ref 164, .int u16, .ref 165, .ref 166]) kc_34_2 rfl rfl rfl A154 rfl rfl rfl (Nat.le_of_ble_eq_true rfl) rfl (fun hh156 eh155 => ?_)
    have K157 := xk_pf (k := 0) (v := 0) K152 (xk_wf (by decide +kernel)) xD_115 A154 rfl (by first | omega | decide) (by first | omega | decide) eh155 rfl
    have KR158 := xk_pf (k := 0) (v := 0) KR153 (xk_wf (by decide +kernel)) xD_115 A154 rfl (by first | omega | decide) (by first | omega | decide) eh155 rfl
    refine xi_iload_n (pc' := 6) (x := a19) kc_34_5 rfl rfl ?_
    refine xi_iconst (pc' := 7) (v := 1) kc_34_6 rfl rfl ?_
    refine xi_cmf (pc' := 10) kc_34_7 rfl (xc_ge_f (X := a19.toInt) (Y := 1) rfl (by decide) (by omega)) ?_
    refine xi_aload_n (pc' := 11) (x := 115) kc_34_10 rfl rfl ?_
    refine xi_bipush (pc' := 13) (v := (-4)) kc_34_11 rfl rfl ?_
    refine xi_virtual (mj := 12) (as := [.int (-4)]) (st1 := []) (lv0 := [(0, .ref 115), (1, .int (-4))]) kc_34_13 rfl rfl rfl rfl rfl eh155.1 (Nat.le_of_ble_eq_true rfl) (hJ _ _ _ _ (by decide)) (xm_le ml_12 rfl) rfl ?_
    refine xi_aload_n (pc' := 1) (x := 115) kc_12_0 rfl rfl ?_
    refine xi_getfield (pc' := 4) (v := .ref 140) kc_12_1 rfl rfl rfl eh155.1 rfl ?_
    refine xi_iload_n (pc' := 5) (x := (-4)) kc_12_4 rfl rfl ?_
    refine xi_ineg (pc' := 6) (v := 4) kc_12_5 rfl rfl ?_
    refine xi_dup2 (pc' := 7) kc_12_6 rfl ⟨rfl, rfl⟩ ?_
    obtain ⟨y159, A159, hy159, ry159⟩ := xk_arr K157.1 xD_140
    obtain ⟨v160, ev160, bv160, dv160⟩ := xj_get hy159 ry159 (i := 4) (by decide) (by decide)
    refine xi_iaload (pc' := 8) (v := v160) kc_12_7 rfl A159 (by decide) rfl (xi_in (by decide) (by rw [hy159]; decide)) ev160 ?_
    refine xi_iconst (pc' := 9) (v := 1) kc_12_8 rfl rfl ?_
    obtain ⟨v161, ev161⟩ : ∃ q : Int32, (v160 : Int32) + 1 = q := ⟨_, rfl⟩
    have rv161 := xc_rng v161
    refine xi_iadd (pc' := 10) (v := v161) kc_12_9 rfl ev161 ?_
    obtain ⟨y162, s162, hy162, ry162⟩ := xj_set (v := v161) hy159 ry159 4 (by first | omega | decide) (by first | omega | decide)
    refine xi_iastore (pc' := 11) (x' := y162) kc_12_10 rfl A159 rfl (xi_in (by decide) (by rw [hy159]; decide)) s162 (fun hh162 eh162 => ?_)
    have K163 := xk_pa K157 (xk_wa (by decide +kernel)) xD_140 hy162 ry162 eh162
    have KR164 := xk_pa KR158 (xk_wa (by decide +kernel)) xD_140 hy162 ry162 eh162
    refine xi_iload_n (pc' := 12) (x := (-4)) kc_12_11 rfl rfl ?_
    refine xi_ireturn kc_12_12 mr_12 rfl ?_
    show xw J ov 99 34 (16, [(0, .ref 115), (1, .int a19)], [.int (-4)], hh162) _
    refine xi_ireturn kc_34_16 mr_34 rfl ?_
    show xw J ov 100 195 (786, [(4, .int x4), (3, .ref 167), (2, .ref 115), (1, .ref 0), (0, .ref 1000000)], [.int (-4)], hh162) _
    refine xi_pop (pc' := 787) kc_195_786 rfl rfl ?_
    refine xi_goto (pc' := 1501) kc_195_787 rfl ?_
    obtain ⟨v165, ev165⟩ : ∃ q : Int32, x4 + 6 = q := ⟨_, rfl⟩
    have zv165 : v165.toInt = (x4.toInt + 6) := by rw [← ev165]; exact (xz_add (X := x4.toInt) (Y := 6) rfl (by decide) (by omega) (by omega)).trans (by omega)
    refine xi_iinc (pc' := 1504) (x := x4) (v := v165) (lv' := [(4, .int v165), (3, .ref 167), (2, .ref 115), (1, .ref 0), (0, .ref 1000000)]) kc_195_1501 rfl rfl ev165 rfl (xm_lt ml_195 rfl) ?_
    refine xi_goto (pc' := 23) kc_195_1504 rfl ?_
    exact kk v165 hh162 (by omega) K163 (xI_kept I KR164.2.1)
