/-! The reference's weather while nothing is told: a row of 99s is gone through to its end -/
theorem lw_cold_loop {J : xe_J} {ov : List (List Int32)} {d o c : Nat} {fs : List Value} {Q : Option Value → xe_H → Prop} {h : xe_H} (eo : h[o]? = some (.inr (12, fs))) (f9 : fs[9]? = some (.ref c)) (hc : c < xe_o) (ec : h[c]? = some (.inl (0, .inl (List.replicate 600 99)))) (kk : Q (some (.int 5)) h) :
    ∀ (m : Nat) (k : Int32) (lv : List (Nat × Value)), k.toInt < 600 → k.toInt + 1 ≤ m → xe_ld lv 0 = some (.ref o) → xe_ld lv 2 = some (.int k) → xw J ov d 20 (15, lv, [], h) Q := by
  have out : ∀ (k : Int32) (lv : List (Nat × Value)), k.toInt < 0 → xe_ld lv 2 = some (.int k) → xw J ov d 20 (15, lv, [], h) Q := by
    intro k lv hk l2
    refine xi_iload_n (pc' := 16) (x := k) kc_20_15 rfl l2 ?_
    refine xi_ift (pc' := 43) kc_20_16 rfl (xc_lt_t (X := k.toInt) (Y := 0) rfl (by decide) hk) ?_
    refine xi_iconst (pc' := 44) (v := 5) kc_20_43 rfl rfl ?_
    exact xi_ireturn kc_20_44 mr_20 rfl kk
  intro m
  induction m with
  | zero =>
    intro k lv h1 h2 l0 l2
    exact out k lv (by omega) l2
  | succ m ih =>
    intro k lv h1 h2 l0 l2
    by_cases hk : k.toInt < 0
    · exact out k lv hk l2
    · have rk := xc_rng k
      refine xi_iload_n (pc' := 16) (x := k) kc_20_15 rfl l2 ?_
      refine xi_iff (pc' := 19) kc_20_16 rfl (xc_lt_f (X := k.toInt) (Y := 0) rfl (by decide) hk) ?_
      refine xi_aload_n (pc' := 20) (x := o) kc_20_19 rfl l0 ?_
      refine xi_getfield (pc' := 23) (v := .ref c) kc_20_20 rfl rfl rfl eo f9 ?_
      refine xi_iload_n (pc' := 24) (x := k) kc_20_23 rfl l2 ?_
      refine xi_iaload (pc' := 25) (v := 99) kc_20_24 rfl ec hc rfl (xi_in (by omega) (by rw [List.length_replicate]; omega)) (xa_rep (by omega) (by omega)) ?_
      refine xi_bipush (pc' := 27) (v := 99) kc_20_25 rfl rfl ?_
      refine xi_cmt (pc' := 37) kc_20_27 rfl rfl ?_
      obtain ⟨k2, ek2⟩ : ∃ q : Int32, k + Int32.ofInt (-1) = q := ⟨_, rfl⟩
      have zk2 : k2.toInt = k.toInt - 1 := by rw [← ek2]; exact (xz_add (X := k.toInt) (Y := -1) rfl (by decide) (by omega) (by omega)).trans (by omega)
      refine xi_iinc (pc' := 40) (x := k) (v := k2) (lv' := xe_st1 lv 2 (.int k2)) kc_20_37 rfl l2 ek2 rfl (xm_lt ml_20 rfl) ?_
      refine xi_goto (pc' := 15) kc_20_40 rfl ?_
      exact ih k2 _ (by omega) (by omega) (xe_ld_ne (by decide) l0 rfl) (xe_ld_self _ _ _)
theorem lw_cold {J : xe_J} {ov : List (List Int32)} {d o c : Nat} {fs : List Value} {x : Int32} {Q : Option Value → xe_H → Prop} {h : xe_H} (eo : h[o]? = some (.inr (12, fs))) (f9 : fs[9]? = some (.ref c)) (hc : c < xe_o) (ec : h[c]? = some (.inl (0, .inl (List.replicate 600 99)))) (kk : Q (some (.int 5)) h) : xw J ov d 20 (0, [(0, .ref o), (1, .int x)], [], h) Q := by
  have rx := xc_rng x
  refine xi_iload_n (pc' := 1) (x := x) kc_20_0 rfl rfl ?_
  refine xi_sipush (pc' := 4) (v := 599) kc_20_1 rfl rfl ?_
  by_cases hk : 599 ≤ x.toInt
  · refine xi_cmt (pc' := 11) kc_20_4 rfl (xc_ge_t (X := x.toInt) (Y := 599) rfl (by decide) hk) ?_
    refine xi_sipush (pc' := 14) (v := 599) kc_20_11 rfl rfl ?_
    refine xi_istore_n (pc' := 15) (lv' := [(2, .int 599), (0, .ref o), (1, .int x)]) kc_20_14 rfl rfl (xm_lt ml_20 rfl) ?_
    exact lw_cold_loop eo f9 hc ec kk 600 599 _ (by decide) (by decide) rfl rfl
  · refine xi_cmf (pc' := 7) kc_20_4 rfl (xc_ge_f (X := x.toInt) (Y := 599) rfl (by decide) hk) ?_
    refine xi_iload_n (pc' := 8) (x := x) kc_20_7 rfl rfl ?_
    refine xi_goto (pc' := 14) kc_20_8 rfl ?_
    refine xi_istore_n (pc' := 15) (lv' := [(2, .int x), (0, .ref o), (1, .int x)]) kc_20_14 rfl rfl (xm_lt ml_20 rfl) ?_
    exact lw_cold_loop eo f9 hc ec kk 600 x _ (by omega) (by omega) rfl rfl
theorem lw_rain_loop {J : xe_J} {ov : List (List Int32)} {d o c : Nat} {fs : List Value} {Q : Option Value → xe_H → Prop} {h : xe_H} (eo : h[o]? = some (.inr (12, fs))) (f9 : fs[10]? = some (.ref c)) (hc : c < xe_o) (ec : h[c]? = some (.inl (0, .inl (List.replicate 600 99)))) (kk : Q (some (.int 0)) h) :
    ∀ (m : Nat) (k : Int32) (lv : List (Nat × Value)), k.toInt < 600 → k.toInt + 1 ≤ m → xe_ld lv 0 = some (.ref o) → xe_ld lv 2 = some (.int k) → xw J ov d 21 (15, lv, [], h) Q := by
  have out : ∀ (k : Int32) (lv : List (Nat × Value)), k.toInt < 0 → xe_ld lv 2 = some (.int k) → xw J ov d 21 (15, lv, [], h) Q := by
    intro k lv hk l2
    refine xi_iload_n (pc' := 16) (x := k) kc_21_15 rfl l2 ?_
    refine xi_ift (pc' := 43) kc_21_16 rfl (xc_lt_t (X := k.toInt) (Y := 0) rfl (by decide) hk) ?_
    refine xi_iconst (pc' := 44) (v := 0) kc_21_43 rfl rfl ?_
    exact xi_ireturn kc_21_44 mr_21 rfl kk
  intro m
  induction m with
  | zero =>
    intro k lv h1 h2 l0 l2
    exact out k lv (by omega) l2
  | succ m ih =>
    intro k lv h1 h2 l0 l2
    by_cases hk : k.toInt < 0
    · exact out k lv hk l2
    · have rk := xc_rng k
      refine xi_iload_n (pc' := 16) (x := k) kc_21_15 rfl l2 ?_
      refine xi_iff (pc' := 19) kc_21_16 rfl (xc_lt_f (X := k.toInt) (Y := 0) rfl (by decide) hk) ?_
      refine xi_aload_n (pc' := 20) (x := o) kc_21_19 rfl l0 ?_
      refine xi_getfield (pc' := 23) (v := .ref c) kc_21_20 rfl rfl rfl eo f9 ?_
      refine xi_iload_n (pc' := 24) (x := k) kc_21_23 rfl l2 ?_
      refine xi_iaload (pc' := 25) (v := 99) kc_21_24 rfl ec hc rfl (xi_in (by omega) (by rw [List.length_replicate]; omega)) (xa_rep (by omega) (by omega)) ?_
      refine xi_bipush (pc' := 27) (v := 99) kc_21_25 rfl rfl ?_
      refine xi_cmt (pc' := 37) kc_21_27 rfl rfl ?_
      obtain ⟨k2, ek2⟩ : ∃ q : Int32, k + Int32.ofInt (-1) = q := ⟨_, rfl⟩
      have zk2 : k2.toInt = k.toInt - 1 := by rw [← ek2]; exact (xz_add (X := k.toInt) (Y := -1) rfl (by decide) (by omega) (by omega)).trans (by omega)
      refine xi_iinc (pc' := 40) (x := k) (v := k2) (lv' := xe_st1 lv 2 (.int k2)) kc_21_37 rfl l2 ek2 rfl (xm_lt ml_21 rfl) ?_
      refine xi_goto (pc' := 15) kc_21_40 rfl ?_
      exact ih k2 _ (by omega) (by omega) (xe_ld_ne (by decide) l0 rfl) (xe_ld_self _ _ _)
theorem lw_rain {J : xe_J} {ov : List (List Int32)} {d o c : Nat} {fs : List Value} {x : Int32} {Q : Option Value → xe_H → Prop} {h : xe_H} (eo : h[o]? = some (.inr (12, fs))) (f9 : fs[10]? = some (.ref c)) (hc : c < xe_o) (ec : h[c]? = some (.inl (0, .inl (List.replicate 600 99)))) (kk : Q (some (.int 0)) h) : xw J ov d 21 (0, [(0, .ref o), (1, .int x)], [], h) Q := by
  have rx := xc_rng x
  refine xi_iload_n (pc' := 1) (x := x) kc_21_0 rfl rfl ?_
  refine xi_sipush (pc' := 4) (v := 599) kc_21_1 rfl rfl ?_
  by_cases hk : 599 ≤ x.toInt
  · refine xi_cmt (pc' := 11) kc_21_4 rfl (xc_ge_t (X := x.toInt) (Y := 599) rfl (by decide) hk) ?_
    refine xi_sipush (pc' := 14) (v := 599) kc_21_11 rfl rfl ?_
    refine xi_istore_n (pc' := 15) (lv' := [(2, .int 599), (0, .ref o), (1, .int x)]) kc_21_14 rfl rfl (xm_lt ml_21 rfl) ?_
    exact lw_rain_loop eo f9 hc ec kk 600 599 _ (by decide) (by decide) rfl rfl
  · refine xi_cmf (pc' := 7) kc_21_4 rfl (xc_ge_f (X := x.toInt) (Y := 599) rfl (by decide) hk) ?_
    refine xi_iload_n (pc' := 8) (x := x) kc_21_7 rfl rfl ?_
    refine xi_goto (pc' := 14) kc_21_8 rfl ?_
    refine xi_istore_n (pc' := 15) (lv' := [(2, .int x), (0, .ref o), (1, .int x)]) kc_21_14 rfl rfl (xm_lt ml_21 rfl) ?_
    exact lw_rain_loop eo f9 hc ec kk 600 x _ (by omega) (by omega) rfl rfl
