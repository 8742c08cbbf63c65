set_option maxHeartbeats 2000000 in
theorem xw_cold {J : xe_J} {ov : List (List Int32)} {d : Nat} {Q : Option Value → xe_H → Prop} {h : xe_H} {fs : List Value} {y : List Int32} {x1 : Int32} (A : h[115]? = some (.inr (12, fs))) (hf : fs[9]? = some (.ref 123)) (A2 : h[123]? = some (.inl (0, .inl y))) (hl : y.length = 600) : ∀ (m : Nat) (x2 : Int32), -1 ≤ x2.toInt → x2.toInt ≤ 599 → x2.toInt + 1 < (m : Int) → Q (some (.int (xlat y 5 (x2.toInt + 1).toNat))) h → xw J ov d 19 (15, [(2, .int x2), (0, .ref 115), (1, .int x1)], [], h) Q := by
  intro m
  induction m with
  | zero => intro x2 b0 b1 hm kk; exfalso; omega
  | succ m ih =>
    intro x2 b0 b1 hm kk
    refine xi_iload_n (pc' := 16) (x := x2) kc_19_15 rfl rfl ?_
    by_cases c1 : x2.toInt < 0
    · refine xi_ift (pc' := 43) kc_19_16 rfl (xc_lt_t (X := x2.toInt) (Y := 0) rfl (by decide) (by omega)) ?_
      refine xi_iconst (pc' := 44) (v := 5) kc_19_43 rfl rfl ?_
      refine xi_ireturn kc_19_44 mr_19 rfl ?_
      rw [show (x2.toInt + 1).toNat = 0 by omega] at kk
      exact kk
    · refine xi_iff (pc' := 19) kc_19_16 rfl (xc_lt_f (X := x2.toInt) (Y := 0) rfl (by decide) (by omega)) ?_
      have q1 := xj_tn (i := x2) (by omega)
      rw [show (x2.toInt + 1).toNat = x2.toNatClampNeg + 1 by omega] at kk
      refine xi_aload_n (pc' := 20) (x := 115) kc_19_19 rfl rfl ?_
      refine xi_getfield (pc' := 23) (v := .ref 123) kc_19_20 rfl rfl rfl A hf ?_
      refine xi_iload_n (pc' := 24) (x := x2) kc_19_23 rfl rfl ?_
      refine xi_iaload (pc' := 25) (v := y.getD x2.toNatClampNeg 0) kc_19_24 rfl A2 (by decide) rfl (xi_in (by omega) (by rw [hl]; omega)) rfl ?_
      refine xi_bipush (pc' := 27) (v := 99) kc_19_25 rfl rfl ?_
      by_cases c2 : (y.getD x2.toNatClampNeg 0).toInt = 99
      · refine xi_cmt (pc' := 37) kc_19_27 rfl (xc_eq_t (X := (y.getD x2.toNatClampNeg 0).toInt) (Y := 99) rfl (by decide) c2) ?_
        obtain ⟨v, ev⟩ : ∃ q : Int32, x2 + (-1) = q := ⟨_, rfl⟩
        have zv : v.toInt = x2.toInt + (-1) := by rw [← ev]; exact xz_add (X := x2.toInt) (Y := (-1)) rfl (by decide) (by omega) (by omega)
        refine xi_iinc (pc' := 40) (x := x2) (v := v) (lv' := [(2, .int v), (0, .ref 115), (1, .int x1)]) kc_19_37 rfl rfl ev rfl (xm_lt ml_19 rfl) ?_
        refine xi_goto (pc' := 15) kc_19_40 rfl ?_
        refine ih v (by omega) (by omega) (by omega) ?_
        rw [xlat_miss c2] at kk
        rw [show (v.toInt + 1).toNat = x2.toNatClampNeg by omega]
        exact kk
      · refine xi_cmf (pc' := 30) kc_19_27 rfl (xc_eq_f (X := (y.getD x2.toNatClampNeg 0).toInt) (Y := 99) rfl (by decide) c2) ?_
        refine xi_aload_n (pc' := 31) (x := 115) kc_19_30 rfl rfl ?_
        refine xi_getfield (pc' := 34) (v := .ref 123) kc_19_31 rfl rfl rfl A hf ?_
        refine xi_iload_n (pc' := 35) (x := x2) kc_19_34 rfl rfl ?_
        refine xi_iaload (pc' := 36) (v := y.getD x2.toNatClampNeg 0) kc_19_35 rfl A2 (by decide) rfl (xi_in (by omega) (by rw [hl]; omega)) rfl ?_
        refine xi_ireturn kc_19_36 mr_19 rfl ?_
        rw [xlat_told c2] at kk
        exact kk
theorem xw_cold0 {J : xe_J} {ov : List (List Int32)} {d : Nat} {Q : Option Value → xe_H → Prop} {h : xe_H} {fs : List Value} {y : List Int32} {x1 v : Int32} (A : h[115]? = some (.inr (12, fs))) (hf : fs[9]? = some (.ref 123)) (A2 : h[123]? = some (.inl (0, .inl y))) (hl : y.length = 600) (h0 : 0 ≤ x1.toInt) (h1 : x1.toInt ≤ 599) (hv : xlat y 5 (x1.toNatClampNeg + 1) = v) (kk : Q (some (.int v)) h) : xw J ov d 19 (0, [(0, .ref 115), (1, .int x1)], [], h) Q := by
  have q1 := xj_tn h0
  have z599 : (599 : Int32).toInt = 599 := by decide
  refine xi_iload_n (pc' := 1) (x := x1) kc_19_0 rfl rfl ?_
  refine xi_sipush (pc' := 4) (v := 599) kc_19_1 rfl rfl ?_
  by_cases c1 : 599 ≤ x1.toInt
  · refine xi_cmt (pc' := 11) kc_19_4 rfl (xc_ge_t (X := x1.toInt) (Y := 599) rfl (by decide) (by omega)) ?_
    refine xi_sipush (pc' := 14) (v := 599) kc_19_11 rfl rfl ?_
    refine xi_istore_n (pc' := 15) (lv' := [(2, .int 599), (0, .ref 115), (1, .int x1)]) kc_19_14 rfl rfl (xm_lt ml_19 rfl) ?_
    refine xw_cold A hf A2 hl 601 599 (by omega) (by omega) (by omega) ?_
    rw [show ((599 : Int32).toInt + 1).toNat = x1.toNatClampNeg + 1 by omega, hv]
    exact kk
  · refine xi_cmf (pc' := 7) kc_19_4 rfl (xc_ge_f (X := x1.toInt) (Y := 599) rfl (by decide) (by omega)) ?_
    refine xi_iload_n (pc' := 8) (x := x1) kc_19_7 rfl rfl ?_
    refine xi_goto (pc' := 14) kc_19_8 rfl ?_
    refine xi_istore_n (pc' := 15) (lv' := [(2, .int x1), (0, .ref 115), (1, .int x1)]) kc_19_14 rfl rfl (xm_lt ml_19 rfl) ?_
    refine xw_cold A hf A2 hl 601 x1 (by omega) (by omega) (by omega) ?_
    rw [show (x1.toInt + 1).toNat = x1.toNatClampNeg + 1 by omega, hv]
    exact kk
set_option maxHeartbeats 2000000 in
theorem xw_rain {J : xe_J} {ov : List (List Int32)} {d : Nat} {Q : Option Value → xe_H → Prop} {h : xe_H} {fs : List Value} {y : List Int32} {x1 : Int32} (A : h[115]? = some (.inr (12, fs))) (hf : fs[10]? = some (.ref 124)) (A2 : h[124]? = some (.inl (0, .inl y))) (hl : y.length = 600) : ∀ (m : Nat) (x2 : Int32), -1 ≤ x2.toInt → x2.toInt ≤ 599 → x2.toInt + 1 < (m : Int) → Q (some (.int (xlat y 0 (x2.toInt + 1).toNat))) h → xw J ov d 20 (15, [(2, .int x2), (0, .ref 115), (1, .int x1)], [], h) Q := by
  intro m
  induction m with
  | zero => intro x2 b0 b1 hm kk; exfalso; omega
  | succ m ih =>
    intro x2 b0 b1 hm kk
    refine xi_iload_n (pc' := 16) (x := x2) kc_20_15 rfl rfl ?_
    by_cases c1 : x2.toInt < 0
    · refine xi_ift (pc' := 43) kc_20_16 rfl (xc_lt_t (X := x2.toInt) (Y := 0) rfl (by decide) (by omega)) ?_
      refine xi_iconst (pc' := 44) (v := 0) kc_20_43 rfl rfl ?_
      refine xi_ireturn kc_20_44 mr_20 rfl ?_
      rw [show (x2.toInt + 1).toNat = 0 by omega] at kk
      exact kk
    · refine xi_iff (pc' := 19) kc_20_16 rfl (xc_lt_f (X := x2.toInt) (Y := 0) rfl (by decide) (by omega)) ?_
      have q1 := xj_tn (i := x2) (by omega)
      rw [show (x2.toInt + 1).toNat = x2.toNatClampNeg + 1 by omega] at kk
      refine xi_aload_n (pc' := 20) (x := 115) kc_20_19 rfl rfl ?_
      refine xi_getfield (pc' := 23) (v := .ref 124) kc_20_20 rfl rfl rfl A hf ?_
      refine xi_iload_n (pc' := 24) (x := x2) kc_20_23 rfl rfl ?_
      refine xi_iaload (pc' := 25) (v := y.getD x2.toNatClampNeg 0) kc_20_24 rfl A2 (by decide) rfl (xi_in (by omega) (by rw [hl]; omega)) rfl ?_
      refine xi_bipush (pc' := 27) (v := 99) kc_20_25 rfl rfl ?_
      by_cases c2 : (y.getD x2.toNatClampNeg 0).toInt = 99
      · refine xi_cmt (pc' := 37) kc_20_27 rfl (xc_eq_t (X := (y.getD x2.toNatClampNeg 0).toInt) (Y := 99) rfl (by decide) c2) ?_
        obtain ⟨v, ev⟩ : ∃ q : Int32, x2 + (-1) = q := ⟨_, rfl⟩
        have zv : v.toInt = x2.toInt + (-1) := by rw [← ev]; exact xz_add (X := x2.toInt) (Y := (-1)) rfl (by decide) (by omega) (by omega)
        refine xi_iinc (pc' := 40) (x := x2) (v := v) (lv' := [(2, .int v), (0, .ref 115), (1, .int x1)]) kc_20_37 rfl rfl ev rfl (xm_lt ml_20 rfl) ?_
        refine xi_goto (pc' := 15) kc_20_40 rfl ?_
        refine ih v (by omega) (by omega) (by omega) ?_
        rw [xlat_miss c2] at kk
        rw [show (v.toInt + 1).toNat = x2.toNatClampNeg by omega]
        exact kk
      · refine xi_cmf (pc' := 30) kc_20_27 rfl (xc_eq_f (X := (y.getD x2.toNatClampNeg 0).toInt) (Y := 99) rfl (by decide) c2) ?_
        refine xi_aload_n (pc' := 31) (x := 115) kc_20_30 rfl rfl ?_
        refine xi_getfield (pc' := 34) (v := .ref 124) kc_20_31 rfl rfl rfl A hf ?_
        refine xi_iload_n (pc' := 35) (x := x2) kc_20_34 rfl rfl ?_
        refine xi_iaload (pc' := 36) (v := y.getD x2.toNatClampNeg 0) kc_20_35 rfl A2 (by decide) rfl (xi_in (by omega) (by rw [hl]; omega)) rfl ?_
        refine xi_ireturn kc_20_36 mr_20 rfl ?_
        rw [xlat_told c2] at kk
        exact kk
theorem xw_rain0 {J : xe_J} {ov : List (List Int32)} {d : Nat} {Q : Option Value → xe_H → Prop} {h : xe_H} {fs : List Value} {y : List Int32} {x1 v : Int32} (A : h[115]? = some (.inr (12, fs))) (hf : fs[10]? = some (.ref 124)) (A2 : h[124]? = some (.inl (0, .inl y))) (hl : y.length = 600) (h0 : 0 ≤ x1.toInt) (h1 : x1.toInt ≤ 599) (hv : xlat y 0 (x1.toNatClampNeg + 1) = v) (kk : Q (some (.int v)) h) : xw J ov d 20 (0, [(0, .ref 115), (1, .int x1)], [], h) Q := by
  have q1 := xj_tn h0
  have z599 : (599 : Int32).toInt = 599 := by decide
  refine xi_iload_n (pc' := 1) (x := x1) kc_20_0 rfl rfl ?_
  refine xi_sipush (pc' := 4) (v := 599) kc_20_1 rfl rfl ?_
  by_cases c1 : 599 ≤ x1.toInt
  · refine xi_cmt (pc' := 11) kc_20_4 rfl (xc_ge_t (X := x1.toInt) (Y := 599) rfl (by decide) (by omega)) ?_
    refine xi_sipush (pc' := 14) (v := 599) kc_20_11 rfl rfl ?_
    refine xi_istore_n (pc' := 15) (lv' := [(2, .int 599), (0, .ref 115), (1, .int x1)]) kc_20_14 rfl rfl (xm_lt ml_20 rfl) ?_
    refine xw_rain A hf A2 hl 601 599 (by omega) (by omega) (by omega) ?_
    rw [show ((599 : Int32).toInt + 1).toNat = x1.toNatClampNeg + 1 by omega, hv]
    exact kk
  · refine xi_cmf (pc' := 7) kc_20_4 rfl (xc_ge_f (X := x1.toInt) (Y := 599) rfl (by decide) (by omega)) ?_
    refine xi_iload_n (pc' := 8) (x := x1) kc_20_7 rfl rfl ?_
    refine xi_goto (pc' := 14) kc_20_8 rfl ?_
    refine xi_istore_n (pc' := 15) (lv' := [(2, .int x1), (0, .ref 115), (1, .int x1)]) kc_20_14 rfl rfl (xm_lt ml_20 rfl) ?_
    refine xw_rain A hf A2 hl 601 x1 (by omega) (by omega) (by omega) ?_
    rw [show (x1.toInt + 1).toNat = x1.toNatClampNeg + 1 by omega, hv]
    exact kk
set_option maxHeartbeats 2000000 in
theorem xw_tell {J : xe_J} {ov : List (List Int32)} {d o t c : Nat} {Q : Option Value → xe_H → Prop} {hb : xe_H} {fs : List Value} {yt : List Int32} {f was : Int32} (ht : t < xe_o) (hot : o ≠ c) (htc : t ≠ c) (A : hb[o]? = some (.inr (8, fs))) (hft : fs[1]? = some (.ref t)) (hfc : fs[2]? = some (.ref c)) (A2 : hb[t]? = some (.inl (0, .inl yt))) (hl : yt.length = 601) (kk : ∀ (z : List Int32) (h' : xe_H), z.length = 601 → xLr z yt f → xh hb c (.inl (0, .inl z)) h' → Q (some (.int was)) h') : ∀ (m : Nat) (i la : Int32) (z : List Int32) (h : xe_H), 0 ≤ i.toInt → i.toInt ≤ 601 → 601 - i.toInt < (m : Int) → z.length = 601 → la = xlat yt f i.toNatClampNeg → (∀ j, j < i.toNatClampNeg → z.getD j 0 = xlat yt f (j + 1)) → xh hb c (.inl (0, .inl z)) h → xw J ov d 98 (42, [(0, .ref o), (3, .int was), (4, .int la), (5, .int i)], [], h) Q := by
  intro m
  induction m with
  | zero => intro i la z h b0 b1 hm; exfalso; omega
  | succ m ih =>
    intro i la z h b0 b1 hm hz hla hp e
    have q1 := xj_tn b0
    have Ah := (e.2.1 o hot).trans A
    have Ah2 := (e.2.1 t htc).trans A2
    have z601 : (601 : Int32).toInt = 601 := by decide
    refine xi_iload (pc' := 44) (x := i) kc_98_42 rfl rfl ?_
    refine xi_aload_n (pc' := 45) (x := o) kc_98_44 rfl rfl ?_
    refine xi_getfield (pc' := 48) (v := .ref t) kc_98_45 rfl rfl rfl Ah hft ?_
    refine xi_arraylength (pc' := 49) (n := 601) (v := 601) kc_98_48 rfl (xl_lenI ht (by decide) Ah2 hl) rfl ?_
    by_cases c1 : 601 ≤ i.toInt
    · refine xi_cmt (pc' := 88) kc_98_49 rfl (xc_ge_t (X := i.toInt) (Y := 601) rfl z601 (by omega)) ?_
      refine xi_iload_n (pc' := 89) (x := was) kc_98_88 rfl rfl ?_
      refine xi_ireturn kc_98_89 mr_98 rfl ?_
      exact kk z h hz (fun j hj => hp j (by omega)) e
    · refine xi_cmf (pc' := 52) kc_98_49 rfl (xc_ge_f (X := i.toInt) (Y := 601) rfl z601 (by omega)) ?_
      have hin : ¬ (i < 0 ∨ yt.length ≤ i.toNatClampNeg) := xi_in b0 (by rw [hl]; omega)
      obtain ⟨i', ei⟩ : ∃ q : Int32, i + 1 = q := ⟨_, rfl⟩
      have zi : i'.toInt = i.toInt + 1 := by rw [← ei]; exact xz_add (X := i.toInt) (Y := 1) rfl (by decide) (by omega) (by omega)
      have q2 := xj_tn (i := i') (by omega)
      have ein : i'.toNatClampNeg = i.toNatClampNeg + 1 := by omega
      have step : ∀ (la' : Int32) (lv : List (Nat × Value)), la' = xlat yt f (i.toNatClampNeg + 1) → lvS lv [(0, .ref o), (3, .int was), (4, .int la'), (5, .int i)] → xw J ov d 98 (73, lv, [], h) Q := by
        intro la' lv hla' hS
        refine xw_lv hS ?_
        refine xi_aload_n (pc' := 74) (x := o) kc_98_73 rfl rfl ?_
        refine xi_getfield (pc' := 77) (v := .ref c) kc_98_74 rfl rfl rfl Ah hfc ?_
        refine xi_iload (pc' := 79) (x := i) kc_98_77 rfl rfl ?_
        refine xi_iload (pc' := 81) (x := la') kc_98_79 rfl rfl ?_
        obtain ⟨z', sz⟩ : ∃ q, z.set i.toNatClampNeg la' = q := ⟨_, rfl⟩
        have hz' : z'.length = 601 := by rw [← sz, List.length_set]; exact hz
        refine xi_iastore (pc' := 82) (x' := z') kc_98_81 rfl e.1 rfl (xi_in b0 (by rw [hz]; omega)) sz (fun h2 e2 => ?_)
        refine xi_iinc (pc' := 85) (x := i) (v := i') (lv' := [(5, .int i'), (0, .ref o), (3, .int was), (4, .int la')]) kc_98_82 rfl rfl ei rfl (xm_lt ml_98 rfl) ?_
        refine xi_goto (pc' := 42) kc_98_85 rfl ?_
        refine xw_lv (b := [(0, .ref o), (3, .int was), (4, .int la'), (5, .int i')]) (lvS_cons (lvS_cons (lvS_cons (lvS_cons (lvS_nil (show ([5, 0, 3, 4] : List Nat).Nodup by decide)) rfl) rfl) rfl) rfl) ?_
        refine ih i' la' z' h2 (by omega) (by omega) (by omega) hz' (by rw [ein]; exact hla') ?_ (xh_tr e e2)
        intro j hj
        rw [← sz, xj_gs]
        by_cases q : i.toNatClampNeg = j
        · subst q
          rw [if_pos ⟨rfl, by omega⟩]
          exact hla'
        · rw [if_neg (fun w => q w.1)]
          exact hp j (by omega)
      refine xi_aload_n (pc' := 53) (x := o) kc_98_52 rfl rfl ?_
      refine xi_getfield (pc' := 56) (v := .ref t) kc_98_53 rfl rfl rfl Ah hft ?_
      refine xi_iload (pc' := 58) (x := i) kc_98_56 rfl rfl ?_
      refine xi_iaload (pc' := 59) (v := yt.getD i.toNatClampNeg 0) kc_98_58 rfl Ah2 ht rfl hin rfl ?_
      refine xi_bipush (pc' := 61) (v := 99) kc_98_59 rfl rfl ?_
      by_cases c2 : (yt.getD i.toNatClampNeg 0).toInt = 99
      · refine xi_cmt (pc' := 73) kc_98_61 rfl (xc_eq_t (X := (yt.getD i.toNatClampNeg 0).toInt) (Y := 99) rfl (by decide) c2) ?_
        exact step la _ (by rw [xlat_miss c2]; exact hla) (lvS_cons (lvS_cons (lvS_cons (lvS_cons (lvS_nil (show ([0, 3, 4, 5] : List Nat).Nodup by decide)) rfl) rfl) rfl) rfl)
      · refine xi_cmf (pc' := 64) kc_98_61 rfl (xc_eq_f (X := (yt.getD i.toNatClampNeg 0).toInt) (Y := 99) rfl (by decide) c2) ?_
        refine xi_aload_n (pc' := 65) (x := o) kc_98_64 rfl rfl ?_
        refine xi_getfield (pc' := 68) (v := .ref t) kc_98_65 rfl rfl rfl Ah hft ?_
        refine xi_iload (pc' := 70) (x := i) kc_98_68 rfl rfl ?_
        refine xi_iaload (pc' := 71) (v := yt.getD i.toNatClampNeg 0) kc_98_70 rfl Ah2 ht rfl hin rfl ?_
        refine xi_istore (pc' := 73) (lv' := [(4, .int (yt.getD i.toNatClampNeg 0)), (0, .ref o), (3, .int was), (5, .int i)]) kc_98_71 rfl rfl (xm_lt ml_98 rfl) ?_
        exact step _ _ (xlat_told c2).symm (lvS_cons (lvS_cons (lvS_cons (lvS_cons (lvS_nil (show ([4, 0, 3, 5] : List Nat).Nodup by decide)) rfl) rfl) rfl) rfl)
