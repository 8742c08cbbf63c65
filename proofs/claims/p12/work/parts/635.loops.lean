/-! Locals by what they hold; Arrays.fill -/
theorem xe_find_keep {α : Type} {f p : α → Bool} {q : α} : ∀ {l : List α}, l.find? f = some q → p q = true → (l.filter p).find? f = some q
  | [], h, _ => by cases h
  | b :: l, h, hp => by
    rw [List.find?_cons] at h
    cases hb : f b with
    | true =>
      rw [hb] at h
      cases h
      rw [List.filter_cons, if_pos hp, List.find?_cons, hb]
    | false =>
      rw [hb] at h
      have ih := xe_find_keep (l := l) h hp
      rw [List.filter_cons]
      split
      · rw [List.find?_cons, hb]; exact ih
      · exact ih
theorem xe_ld_self (lv : List (Nat × Value)) (i : Nat) (v : Value) : xe_ld (xe_st1 lv i v) i = some v := by
  unfold xe_ld xe_st1
  rw [List.find?_cons]
  simp
theorem xe_ld_ne {lv : List (Nat × Value)} {i j : Nat} {v u : Value} (hj : j ≠ i) (h : xe_ld lv j = some u) (hc : u.category = 1) : xe_ld (xe_st1 lv i v) j = some u := by
  unfold xe_ld at h ⊢
  cases hf : lv.find? (fun q => q.1 == j) with
  | none => rw [hf] at h; cases h
  | some q =>
    rw [hf] at h
    have e1 : q.2 = u := Option.some.inj h
    have e2 : q.1 = j := by simpa using List.find?_some hf
    unfold xe_st1
    rw [List.find?_cons]
    have e3 : ((i, v).1 == j) = false := by simp [Ne.symm hj]
    rw [e3]
    dsimp only
    rw [xe_find_keep hf (by rw [e1, e2, hc]; simp [hj])]
    exact congrArg some e1
theorem xl_fill_loop {J : xe_J} {ov : List (List Int32)} {d a t N : Nat} {v : Int32} {Q : Option Value → xe_H → Prop} (ht : xe_ty[t]? = some .int) (hN : N < 2147483648) {h0 : xe_H} {x : List Int32} (hx : x.length = N) (kk : ∀ h', xh h0 a (.inl (t, .inl (List.replicate N v))) h' → Q none h') :
    ∀ (m k : Nat) (lv : List (Nat × Value)) (h : xe_H), k + m = N → xe_ld lv 0 = some (.ref a) → xe_ld lv 1 = some (.int v) → xe_ld lv 2 = some (.int (nI k)) → xe_ld lv 3 = some (.int (nI N)) → xh h0 a (.inl (t, .inl (List.replicate k v ++ x.drop k))) h → xw J ov d 1 (5, lv, [], h) Q := by
  intro m
  induction m with
  | zero =>
    intro k lv h hk l0 l1 l2 l3 e
    refine xi_iload_n (pc' := 6) (x := nI k) kc_1_5 rfl l2 ?_
    refine xi_iload_n (pc' := 7) (x := nI N) kc_1_6 rfl l3 ?_
    refine xi_cmt (pc' := 20) kc_1_7 rfl (xc_ge_t (X := k) (Y := N) (nI_toInt (by omega)) (nI_toInt (by omega)) (by omega)) ?_
    refine xi_return kc_1_20 mr_1 (kk h ?_)
    have e1 : List.replicate k v ++ x.drop k = List.replicate N v := by
      rw [List.drop_eq_nil_of_le (by omega), List.append_nil]
      congr 1
    rw [e1] at e
    exact e
  | succ m ih =>
    intro k lv h hk l0 l1 l2 l3 e
    have hlen : (List.replicate k v ++ x.drop k).length = N := by rw [List.length_append, List.length_replicate, List.length_drop, hx]; omega
    refine xi_iload_n (pc' := 6) (x := nI k) kc_1_5 rfl l2 ?_
    refine xi_iload_n (pc' := 7) (x := nI N) kc_1_6 rfl l3 ?_
    refine xi_cmf (pc' := 10) kc_1_7 rfl (xc_ge_f (X := k) (Y := N) (nI_toInt (by omega)) (nI_toInt (by omega)) (by omega)) ?_
    refine xi_aload_n (pc' := 11) (x := a) kc_1_10 rfl l0 ?_
    refine xi_iload_n (pc' := 12) (x := nI k) kc_1_11 rfl l2 ?_
    refine xi_iload_n (pc' := 13) (x := v) kc_1_12 rfl l1 ?_
    refine xi_iastore (pc' := 14) (x' := List.replicate (k + 1) v ++ x.drop (k + 1)) kc_1_13 rfl e.1 ht (xi_in (by rw [nI_toInt (by omega)]; omega) (by rw [nI_toInt (by omega), hlen]; omega)) (by rw [nI_clamp (by omega)]; exact xf_step (by omega)) (fun h' e' => ?_)
    refine xi_iinc (pc' := 17) (x := nI k) (v := nI (k + 1)) (lv' := xe_st1 lv 2 (.int (nI (k + 1)))) kc_1_14 rfl l2 (nI_1 k) rfl (xm_lt ml_1 rfl) ?_
    refine xi_goto (pc' := 5) kc_1_17 rfl ?_
    exact ih (k + 1) _ h' (by omega) (xe_ld_ne (by decide) l0 rfl) (xe_ld_ne (by decide) l1 rfl) (xe_ld_self _ _ _) (xe_ld_ne (by decide) l3 rfl) (xh_tr e e')
theorem xl_fill {J : xe_J} {ov : List (List Int32)} {d a t N : Nat} {v : Int32} {Q : Option Value → xe_H → Prop} {h : xe_H} {x : List Int32} (ha : a < xe_o) (ht : xe_ty[t]? = some .int) (hN : N < 2147483648) (hx : x.length = N) (e : h[a]? = some (.inl (t, .inl x))) (kk : ∀ h', xh h a (.inl (t, .inl (List.replicate N v))) h' → Q none h') : xw J ov d 1 (0, [(0, .ref a), (1, .int v)], [], h) Q := by
  refine xi_iconst (pc' := 1) (v := 0) kc_1_0 rfl rfl ?_
  refine xi_istore_n (pc' := 2) (lv' := [(2, .int 0), (0, .ref a), (1, .int v)]) kc_1_1 rfl rfl (xm_lt ml_1 rfl) ?_
  refine xi_aload_n (pc' := 3) (x := a) kc_1_2 rfl rfl ?_
  refine xi_arraylength (pc' := 4) (n := N) (v := nI N) kc_1_3 rfl (xl_lenI ha (List.getElem?_eq_some_iff.mp ht).1 e hx) rfl ?_
  refine xi_istore_n (pc' := 5) (lv' := [(3, .int (nI N)), (2, .int 0), (0, .ref a), (1, .int v)]) kc_1_4 rfl rfl (xm_lt ml_1 rfl) ?_
  exact xl_fill_loop ht hN hx kk N 0 _ h (by omega) rfl rfl rfl rfl (xh_rf e)
