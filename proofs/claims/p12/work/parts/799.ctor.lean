/-! The reference's constructor: its long loop -/
def xh2 (h : xe_H) (a : Nat) (x : xe_E) (b : Nat) (y : xe_E) (h' : xe_H) : Prop := h'[a]? = some x ∧ h'[b]? = some y ∧ (∀ j, j ≠ a → j ≠ b → h'[j]? = h[j]?) ∧ h'.length = h.length ∧ xe_sz h' = xe_sz h
theorem xf_step0 (k m : Nat) (v u : Int32) : (List.replicate k v ++ List.replicate (m + 1) u).set k v = List.replicate (k + 1) v ++ List.replicate m u := by
  rw [List.set_append_right _ _ (by simp), List.length_replicate, Nat.sub_self, List.replicate_succ, List.set_cons_zero, List.replicate_succ', List.append_assoc]
  rfl
theorem lm_ctor {J : xe_J} {ov : List (List Int32)} {d o c r : Nat} {fs : List Value} {Q : Option Value → xe_H → Prop} {h0 : xe_H} (hoc : o ≠ c) (hor : o ≠ r) (hcr : c ≠ r) (eo : h0[o]? = some (.inr (12, fs))) (f9 : fs[9]? = some (.ref c)) (f10 : fs[10]? = some (.ref r)) (kk : ∀ (lv : List (Nat × Value)) (h' : xe_H), lv = [(1, .int 600), (0, .ref o)] → xh2 h0 c (.inl (0, .inl (List.replicate 600 99))) r (.inl (0, .inl (List.replicate 600 99))) h' → xw J ov d 8 (544, lv, [], h') Q) :
    ∀ (m k : Nat) (h : xe_H), k + m = 600 → xh2 h0 c (.inl (0, .inl (List.replicate k 99 ++ List.replicate m 0))) r (.inl (0, .inl (List.replicate k 99 ++ List.replicate m 0))) h → xw J ov d 8 (515, [(1, .int (nI k)), (0, .ref o)], [], h) Q := by
  intro m
  induction m with
  | zero =>
    intro k h hk e
    obtain rfl : k = 600 := by omega
    refine xi_iload_n (pc' := 516) (x := nI 600) kc_8_515 rfl rfl ?_
    refine xi_sipush (pc' := 519) (v := 600) kc_8_516 rfl rfl ?_
    refine xi_cmt (pc' := 544) kc_8_519 rfl (by decide) ?_
    refine kk _ h rfl ?_
    rw [show List.replicate 600 (99 : Int32) ++ List.replicate 0 0 = List.replicate 600 99 from List.append_nil _] at e
    exact e
  | succ m ih =>
    intro k h hk e
    obtain ⟨e1, e2, e3, e4, e5⟩ := e
    have hlen : (List.replicate k (99 : Int32) ++ List.replicate (m + 1) 0).length = 600 := by rw [List.length_append, List.length_replicate, List.length_replicate]; omega
    have hin : ¬ (nI k < 0 ∨ (List.replicate k (99 : Int32) ++ List.replicate (m + 1) 0).length ≤ (nI k).toNatClampNeg) := xi_in (by rw [nI_toInt (by omega)]; omega) (by rw [nI_toInt (by omega), hlen]; omega)
    have hset : (List.replicate k (99 : Int32) ++ List.replicate (m + 1) 0).set (nI k).toNatClampNeg 99 = List.replicate (k + 1) 99 ++ List.replicate m 0 := by rw [nI_clamp (by omega)]; exact xf_step0 k m 99 0
    refine xi_iload_n (pc' := 516) (x := nI k) kc_8_515 rfl rfl ?_
    refine xi_sipush (pc' := 519) (v := 600) kc_8_516 rfl rfl ?_
    refine xi_cmf (pc' := 522) kc_8_519 rfl (xc_ge_f (X := k) (Y := 600) (nI_toInt (by omega)) (by decide) (by omega)) ?_
    refine xi_aload_n (pc' := 523) (x := o) kc_8_522 rfl rfl ?_
    refine xi_getfield (pc' := 526) (v := .ref c) kc_8_523 rfl rfl rfl ((e3 o hoc hor).trans eo) f9 ?_
    refine xi_iload_n (pc' := 527) (x := nI k) kc_8_526 rfl rfl ?_
    refine xi_bipush (pc' := 529) (v := 99) kc_8_527 rfl rfl ?_
    refine xi_iastore (pc' := 530) (x' := List.replicate (k + 1) 99 ++ List.replicate m 0) kc_8_529 rfl e1 rfl hin hset (fun h1 g1 => ?_)
    refine xi_aload_n (pc' := 531) (x := o) kc_8_530 rfl rfl ?_
    refine xi_getfield (pc' := 534) (v := .ref r) kc_8_531 rfl rfl rfl ((g1.2.1 o hoc).trans ((e3 o hoc hor).trans eo)) f10 ?_
    refine xi_iload_n (pc' := 535) (x := nI k) kc_8_534 rfl rfl ?_
    refine xi_bipush (pc' := 537) (v := 99) kc_8_535 rfl rfl ?_
    refine xi_iastore (pc' := 538) (x' := List.replicate (k + 1) 99 ++ List.replicate m 0) kc_8_537 rfl ((g1.2.1 r (Ne.symm hcr)).trans e2) rfl hin hset (fun h2 g2 => ?_)
    refine xi_iinc (pc' := 541) (x := nI k) (v := nI (k + 1)) (lv' := [(1, .int (nI (k + 1))), (0, .ref o)]) kc_8_538 rfl rfl (nI_1 k) rfl (xm_lt ml_8 rfl) ?_
    refine xi_goto (pc' := 515) kc_8_541 rfl ?_
    refine ih (k + 1) h2 (by omega) ⟨(g2.2.1 c hcr).trans g1.1, g2.1, fun j hj hj2 => (g2.2.1 j hj2).trans ((g1.2.1 j hj).trans (e3 j hj hj2)), g2.2.2.1.trans (g1.2.2.1.trans e4), g2.2.2.2.trans (g1.2.2.2.trans e5)⟩
def xf_all (h : xe_H) (k : Nat) : List xe_E → Prop
  | [] => True
  | c :: l => h[k]? = some c ∧ xf_all h (k + 1) l
theorem xf_all_get {h : xe_H} : ∀ (l : List xe_E) (k : Nat), xf_all h k l → ∀ (j : Nat) (x : xe_E), l[j]? = some x → h[k + j]? = some x
  | [], _, _, j, x, e => by cases e
  | c :: l, k, hh, 0, x, e => by cases e; exact hh.1
  | c :: l, k, hh, j + 1, x, e => by
    have := xf_all_get l (k + 1) hh.2 j x e
    rw [show k + 1 + j = k + (j + 1) by omega] at this
    exact this
theorem xf_fr_of {h : xe_H} (a : xf_all h 0 hL) : xf_fr h := fun k x e => by
  have := xf_all_get hL 0 a k x e
  rw [Nat.zero_add] at this
  exact this
