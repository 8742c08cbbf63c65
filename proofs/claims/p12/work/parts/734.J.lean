theorem xi_staticJ {J : xe_J} {ov : List (List Int32)} {d mi : Nat} {Q : Option Value → xe_H → Prop} {pc : Nat} {ax : List Nat} {lv : List (Nat × Value)} {st : List Value} {h : xe_H} {n mj k : Nat} {as st1 : List Value} {r : Option Value} {h' : xe_H} (hc : xe_code mi pc = some (.invokestatic n, ax)) (h0 : ax.headD 0 = mj) (h1 : ax.getD 1 0 = k) (hk : k ≤ st.length) (ht : (st.take k).reverse = as) (hd : st.drop k = st1) (hs : (st1.map fun v : Value => v.category).sum ≤ 8) (hj : J d mj as h = some (r, h')) (kk : xw J ov (d + 1) mi (pc + 3, lv, r.toList ++ st1, h') Q) : xw J ov (d + 1) mi (pc, lv, st, h) Q := by
  subst hd; subst ht; subst h1; subst h0
  refine xw_callJ ?_ hj kk
  rw [xe_nx_of hc]
  exact if_pos ⟨hk, hs⟩
set_option maxHeartbeats 4000000 in
theorem xs_isset {J : xe_J} {ov : List (List Int32)} (hJ : ∀ d mj as h, mj ≠ xe_loff → J d mj as h = none) (hov1 : ov[1]? = some [10, 0, 0, 0, 0, 0]) (hov2 : ov[2]? = some [99, 30, 50, 50, 1, 99999]) {d : Nat} {h : xe_H} {x1 : Int32} (T : xt h) : xw J ov (d + 5) 138 (0, [(0, .ref 66), (1, .int x1)], [], h) (fun r h' => h' = h ∧ (r = some (.int 0) ∨ r = some (.int 1))) := by
  have K : xk [] h h := xk_re T
  have rx1 := xc_rng x1
  refine xi_iload_n (pc' := 1) (x := x1) kc_138_0 rfl rfl ?_
  by_cases c1 : x1.toInt < 0
  · refine xi_ift (pc' := 16) kc_138_1 rfl (xc_lt_t (X := x1.toInt) (Y := 0) rfl (by decide) (by omega)) ?_
    refine xi_iconst (pc' := 17) (v := 0) kc_138_16 rfl rfl ?_
    refine xi_ireturn kc_138_17 mr_138 rfl ?_
    exact ⟨rfl, Or.inl rfl⟩
  · refine xi_iff (pc' := 4) kc_138_1 rfl (xc_lt_f (X := x1.toInt) (Y := 0) rfl (by decide) (by omega)) ?_
    refine xi_iload_n (pc' := 5) (x := x1) kc_138_4 rfl rfl ?_
    refine xi_aload_n (pc' := 6) (x := 66) kc_138_5 rfl rfl ?_
    obtain ⟨u3, wl2, bu3, A4⟩ := xq_66 K.1
    refine xi_virtual (mj := 139) (as := []) (st1 := [.int x1]) (lv0 := [(0, .ref 66)]) kc_138_6 rfl rfl rfl rfl rfl A4 (Nat.le_of_ble_eq_true rfl) (hJ _ _ _ _ (by decide)) (xm_le ml_139 rfl) rfl ?_
    refine xi_iconst (pc' := 1) (v := 1) kc_139_0 rfl rfl ?_
    refine xi_aload_n (pc' := 2) (x := 66) kc_139_1 rfl rfl ?_
    refine xi_getfield (pc' := 5) (v := .ref 1) kc_139_2 rfl rfl rfl A4 rfl ?_
    obtain ⟨u5, u6, bu5, bu6, A7⟩ := xq_1 K.1
    refine xi_virtual (mj := 140) (as := []) (st1 := [.int 1]) (lv0 := [(0, .ref 1)]) kc_139_5 rfl rfl rfl rfl rfl A7 (Nat.le_of_ble_eq_true rfl) (hJ _ _ _ _ (by decide)) (xm_le ml_140 rfl) rfl ?_
    refine xi_aload_n (pc' := 1) (x := 1) kc_140_0 rfl rfl ?_
    refine xi_getfield (pc' := 4) (v := .int u5) kc_140_1 rfl rfl rfl A7 rfl ?_
    refine xi_bipush (pc' := 6) (v := 6) kc_140_4 rfl rfl ?_
    by_cases c8 : 6 ≤ u5.toInt
    · refine xi_cmt (pc' := 16) kc_140_6 rfl (xc_ge_t (X := u5.toInt) (Y := 6) rfl (by decide) (by omega)) ?_
      refine xi_bipush (pc' := 18) (v := 6) kc_140_16 rfl rfl ?_
      refine xi_ireturn kc_140_18 mr_140 rfl ?_
      show xw J ov (d + 4) 139 (8, [(0, .ref 66)], [.int 6, .int 1], h) _
      refine xi_ishl (pc' := 9) (v := 64) kc_139_8 rfl rfl ?_
      refine xi_ireturn kc_139_9 mr_139 rfl ?_
      show xw J ov (d + 5) 138 (9, [(0, .ref 66), (1, .int x1)], [.int 64, .int x1], h) _
      by_cases c9 : 64 ≤ x1.toInt
      · refine xi_cmt (pc' := 16) kc_138_9 rfl (xc_ge_t (X := x1.toInt) (Y := 64) rfl (by decide) (by omega)) ?_
        refine xi_iconst (pc' := 17) (v := 0) kc_138_16 rfl rfl ?_
        refine xi_ireturn kc_138_17 mr_138 rfl ?_
        exact ⟨rfl, Or.inl rfl⟩
      · refine xi_cmf (pc' := 12) kc_138_9 rfl (xc_ge_f (X := x1.toInt) (Y := 64) rfl (by decide) (by omega)) ?_
        refine xi_iconst (pc' := 13) (v := 1) kc_138_12 rfl rfl ?_
        refine xi_goto (pc' := 17) kc_138_13 rfl ?_
        refine xi_ireturn kc_138_17 mr_138 rfl ?_
        exact ⟨rfl, Or.inr rfl⟩
    · refine xi_cmf (pc' := 9) kc_140_6 rfl (xc_ge_f (X := u5.toInt) (Y := 6) rfl (by decide) (by omega)) ?_
      refine xi_aload_n (pc' := 10) (x := 1) kc_140_9 rfl rfl ?_
      refine xi_getfield (pc' := 13) (v := .int u5) kc_140_10 rfl rfl rfl A7 rfl ?_
      refine xi_goto (pc' := 18) kc_140_13 rfl ?_
      refine xi_ireturn kc_140_18 mr_140 rfl ?_
      show xw J ov (d + 4) 139 (8, [(0, .ref 66)], [.int u5, .int 1], h) _
      obtain ⟨v10, ev10⟩ : ∃ q : Int32, (1 : Int32) <<< (u5 &&& 31) = q := ⟨_, rfl⟩
      have rv10 := xc_rng v10
      have bv10 : 1 ≤ v10.toInt ∧ v10.toInt ≤ 64 := by rw [← ev10]; exact xj_shl6 (by omega) (by omega)
      refine xi_ishl (pc' := 9) (v := v10) kc_139_8 rfl ev10 ?_
      refine xi_ireturn kc_139_9 mr_139 rfl ?_
      show xw J ov (d + 5) 138 (9, [(0, .ref 66), (1, .int x1)], [.int v10, .int x1], h) _
      by_cases c11 : v10.toInt ≤ x1.toInt
      · refine xi_cmt (pc' := 16) kc_138_9 rfl (xc_ge_t (X := x1.toInt) (Y := v10.toInt) rfl rfl (by omega)) ?_
        refine xi_iconst (pc' := 17) (v := 0) kc_138_16 rfl rfl ?_
        refine xi_ireturn kc_138_17 mr_138 rfl ?_
        exact ⟨rfl, Or.inl rfl⟩
      · refine xi_cmf (pc' := 12) kc_138_9 rfl (xc_ge_f (X := x1.toInt) (Y := v10.toInt) rfl rfl (by omega)) ?_
        refine xi_iconst (pc' := 13) (v := 1) kc_138_12 rfl rfl ?_
        refine xi_goto (pc' := 17) kc_138_13 rfl ?_
        refine xi_ireturn kc_138_17 mr_138 rfl ?_
        exact ⟨rfl, Or.inr rfl⟩
set_option maxHeartbeats 4000000 in
theorem xs_off {ov : List (List Int32)} (hov1 : ov[1]? = some [10, 0, 0, 0, 0, 0]) (hov2 : ov[2]? = some [99, 30, 50, 50, 1, 99999]) {h : xe_H} {x1 : Int32} (T : xt h) {n : Nat} (hex : xe_ex xe_J0 ov n 97 138 (0, [(0, .ref 66), (1, .int x1)], [], h) = some (some (.int 1), h)) {Q : Option Value → xe_H → Prop} (kk : ∀ (r : Int64) (h' : xe_H), xk [(29, 0), (31, 0), (33, 0), (35, 0), (37, 0), (39, 0), (41, 0), (43, 0), (45, 0), (47, 0), (49, 0), (51, 0), (125, 0), (0, 9), (115, 1), (66, 8), (115, 18), (71, 0), (132, 0)] h h' → Q (some (.long r)) h') : xw xe_J0 ov 98 193 (0, [(0, .ref 0), (1, .int x1)], [], h) Q := by
  have hJ : ∀ d mj as h, mj ≠ xe_loff → xe_J0 d mj as h = none := fun _ _ _ _ _ => rfl
  have K : xk [(29, 0), (31, 0), (33, 0), (35, 0), (37, 0), (39, 0), (41, 0), (43, 0), (45, 0), (47, 0), (49, 0), (51, 0), (125, 0), (0, 9), (115, 1), (66, 8), (115, 18), (71, 0), (132, 0)] h h := xk_re T
  have rx1 := xc_rng x1
  refine xi_aload_n (pc' := 1) (x := 0) kc_193_0 rfl rfl ?_
  obtain ⟨u1, u2, bu1, bu2, A3⟩ := xq_0 K.1
  refine xi_getfield (pc' := 4) (v := .ref 66) kc_193_1 rfl rfl rfl A3 rfl ?_
  refine xi_iload_n (pc' := 5) (x := x1) kc_193_4 rfl rfl ?_
  obtain ⟨u5, wl4, bu5, A6⟩ := xq_66 K.1
  refine xi_virtual (mj := 138) (as := [.int x1]) (st1 := []) (lv0 := [(0, .ref 66), (1, .int x1)]) kc_193_5 rfl rfl rfl rfl rfl A6 (Nat.le_of_ble_eq_true rfl) (hJ _ _ _ _ (by decide)) (xm_le ml_138 rfl) rfl ?_
  refine ⟨n, _, _, hex, ?_⟩
  show xw xe_J0 ov 98 193 (8, [(0, .ref 0), (1, .int x1)], [.int 1], h) _
  refine xi_ift (pc' := 21) kc_193_8 rfl rfl ?_
  refine xi_aload_n (pc' := 22) (x := 0) kc_193_21 rfl rfl ?_
  refine xi_getfield (pc' := 25) (v := .ref 66) kc_193_22 rfl rfl rfl A3 rfl ?_
  refine xi_iload_n (pc' := 26) (x := x1) kc_193_25 rfl rfl ?_
  refine xi_virtual (mj := 146) (as := [.int x1]) (st1 := []) (lv0 := [(0, .ref 66), (1, .int x1)]) kc_193_26 rfl rfl rfl rfl rfl A6 (Nat.le_of_ble_eq_true rfl) (hJ _ _ _ _ (by decide)) (xm_le ml_146 rfl) rfl ?_
  refine mt_146_0 hJ hov1 hov2 (d := 92) (x1 := x1) K.1 (fun r7 hh8 K9 => ?_)
  have K10 := xk_tr K K9 rfl
  obtain ⟨u11, u12, bu11, bu12, A13⟩ := xq_0 K10.1
  have e14 : u2 = u12 := xk_eqi (q := 9) K9 rfl A3 A13 rfl rfl
  subst e14
  obtain ⟨u16, wl15, bu16, A17⟩ := xq_66 K10.1
  have e18 : u5 = u16 := xk_eqi (q := 8) K9 rfl A6 A17 rfl rfl
  subst e18
  show xw xe_J0 ov 98 193 (29, [(0, .ref 0), (1, .int x1)], [.long r7], hh8) _
  refine xi_lreturn kc_193_29 mr_193 ?_
  exact kk r7 hh8 K10
/-! The answers of the law's own 'off' on typed heaps -/
def xo_P (ov : List (List Int32)) (v : Int32) (h : xe_H) (q : Option Value × xe_H) : Prop :=
  h.length < xe_o ∧ (∃ fs : List Value, h[0]? = some (.inr (0, fs)) ∧ fs[2]? = some (.ref 66)) ∧ (∃ fs : List Value, h[66]? = some (.inr (3, fs))) ∧
  ((∃ (n : Nat) (h1 : xe_H) (x y : Int64), xe_ex xe_J0 ov n 98 193 (0, lv_args 0 [.ref 0, .int v], [], h) = some (some (.long y), h1) ∧ h1[167]? = some (.inl (1, .inr (.inl [x]))) ∧ xk [(29, 0), (31, 0), (33, 0), (35, 0), (37, 0), (39, 0), (41, 0), (43, 0), (45, 0), (47, 0), (49, 0), (51, 0), (125, 0), (0, 9), (115, 1), (66, 8), (115, 18), (71, 0), (132, 0)] h h1 ∧ q = (some (.int 0), h1.set 167 (.inl (1, .inr (.inl [y]))))) ∨
   (∃ n : Nat, xe_ex xe_J0 ov n 97 138 (0, lv_args 0 [.ref 66, .int v], [], h) = some (some (.int 0), h) ∧ q = (some (.int 1), h ++ [xo_e])))
def xo_C (ov : List (List Int32)) (d mj : Nat) (as : List Value) (h : xe_H) (q : Option Value × xe_H) : Prop := d = 99 ∧ mj = xe_loff ∧ ∃ v : Int32, as = [.ref 0, .int v, .ref 167] ∧ xo_P ov v h q
noncomputable def xo_J (ov : List (List Int32)) : xe_J := fun d mj as h => @dite _ (∃ q, xo_C ov d mj as h q) (Classical.propDecidable _) (fun hq => some (Classical.choose hq)) (fun _ => none)
theorem xo_J_spec {ov : List (List Int32)} {d mj : Nat} {as : List Value} {h : xe_H} {q : Option Value × xe_H} (hj : xo_J ov d mj as h = some q) : xo_C ov d mj as h q := by
  unfold xo_J at hj
  by_cases hq : ∃ q, xo_C ov d mj as h q
  · rw [dif_pos hq] at hj
    have h1 := Classical.choose_spec hq
    rw [Option.some.inj hj] at h1
    exact h1
  · rw [dif_neg hq] at hj
    cases hj
theorem xo_J_some {ov : List (List Int32)} {d mj : Nat} {as : List Value} {h : xe_H} {q : Option Value × xe_H} (hc : xo_C ov d mj as h q) : ∃ q', xo_J ov d mj as h = some q' ∧ xo_C ov d mj as h q' := by
  have hq : ∃ q, xo_C ov d mj as h q := ⟨q, hc⟩
  exact ⟨Classical.choose hq, by unfold xo_J; rw [dif_pos hq], Classical.choose_spec hq⟩
theorem xo_J_none {ov : List (List Int32)} {d mj : Nat} {as : List Value} {h : xe_H} (hn : d ≠ 99 ∨ mj ≠ xe_loff) : xo_J ov d mj as h = none := by
  have hq : ¬ ∃ q, xo_C ov d mj as h q := fun ⟨q, h1, h2, _⟩ => hn.elim (fun k => k h1) (fun k => k h2)
  unfold xo_J
  rw [dif_neg hq]
theorem xt_app {h : xe_H} (T : xt h) (e : xe_E) : xt (h ++ [e]) := by
  intro k d hd
  obtain ⟨x, h1, h2⟩ := T k d hd
  exact ⟨x, by rw [List.getElem?_append_left (List.getElem?_eq_some_iff.mp h1).1]; exact h1, h2⟩
theorem xl_app {h : xe_H} (T : xt h) (e : xe_E) {l : Nat × Nat} (hl : (xT[l.1]?).isSome = true) : xl (h ++ [e]) l = xl h l := by
  cases hd : xT[l.1]? with
  | none => rw [hd] at hl; cases hl
  | some d =>
    obtain ⟨x, h1, h2⟩ := T _ _ hd
    unfold xl
    rw [List.getElem?_append_left (List.getElem?_eq_some_iff.mp h1).1]
theorem xo_typ {ov : List (List Int32)} (hov1 : ov[1]? = some [10, 0, 0, 0, 0, 0]) (hov2 : ov[2]? = some [99, 30, 50, 50, 1, 99999]) (v : Int32) (h : xe_H) (T : xt h) (hn : h.length < xe_o) : ∃ (r : Int32) (h' : xe_H), xo_J ov 99 194 [.ref 0, .int v, .ref 167] h = some (some (.int r), h') ∧ xt h' ∧ (∀ l : Nat × Nat, List.elem l [(29, 0), (31, 0), (33, 0), (35, 0), (37, 0), (39, 0), (41, 0), (43, 0), (45, 0), (47, 0), (49, 0), (51, 0), (125, 0), (0, 9), (115, 1), (66, 8), (115, 18), (71, 0), (132, 0)] = true → xl h' l = xl h l) ∧ h'.length ≤ h.length + 1 ∧ xe_sz h' ≤ xe_sz h + 6 := by
  have hJ0 : ∀ d mj as h, mj ≠ xe_loff → xe_J0 d mj as h = none := fun _ _ _ _ _ => rfl
  have c0 : ∃ fs : List Value, h[0]? = some (.inr (0, fs)) ∧ fs[2]? = some (.ref 66) := by
    obtain ⟨fs, A, a⟩ := xk_obj T xD_0
    obtain ⟨w0, r0, rfl, t0, a1⟩ := xt_cons a
    obtain ⟨w1, r1, rfl, t1, a2⟩ := xt_cons a1
    obtain ⟨w2, r2, rfl, t2, a3⟩ := xt_cons a2
    obtain rfl := t2
    exact ⟨_, A, rfl⟩
  have c66 : ∃ fs : List Value, h[66]? = some (.inr (3, fs)) := by
    obtain ⟨fs, A, a⟩ := xk_obj T xD_66
    exact ⟨fs, A⟩
  have hany : ∃ q, xo_C ov 99 194 [.ref 0, .int v, .ref 167] h q := by
    obtain ⟨n, r, h', hex, hh, hr⟩ := xs_isset (J := xe_J0) (ov := ov) hJ0 hov1 hov2 (d := 92) (x1 := v) T
    subst hh
    rcases hr with rfl | rfl
    · exact ⟨_, rfl, rfl, v, rfl, hn, c0, c66, Or.inr ⟨n, hex, rfl⟩⟩
    · obtain ⟨n2, r2, h2, hex2, y, hr2, K⟩ := xs_off (ov := ov) hov1 hov2 T hex (Q := fun r h2 => ∃ y : Int64, r = some (.long y) ∧ xk [(29, 0), (31, 0), (33, 0), (35, 0), (37, 0), (39, 0), (41, 0), (43, 0), (45, 0), (47, 0), (49, 0), (51, 0), (125, 0), (0, 9), (115, 1), (66, 8), (115, 18), (71, 0), (132, 0)] h' h2) (fun r h2 K => ⟨r, rfl, K⟩)
      subst hr2
      obtain ⟨l, A, hl⟩ := xk_larr K.1 xD_167
      match l, hl with
      | [x], _ => exact ⟨_, rfl, rfl, v, rfl, hn, c0, c66, Or.inl ⟨n2, h2, x, y, hex2, A, K, rfl⟩⟩
  obtain ⟨q0, hq0⟩ := hany
  obtain ⟨q', hj, -, -, v', hv', -, -, -, hp⟩ := xo_J_some hq0
  cases hv'
  rcases hp with ⟨n', h1, x, y, -, e', K, hq⟩ | ⟨n', -, hq⟩
  · subst hq
    have K2 := xk_pla (y := [y]) K (xk_wa rfl) xD_167 rfl (xh_set e' rfl)
    exact ⟨_, _, hj, K2.1, K2.2.1, by rw [K2.2.2.1]; omega, by rw [K2.2.2.2]; omega⟩
  · subst hq
    refine ⟨_, _, hj, xt_app T _, fun l hl => xl_app T _ ?_, by rw [List.length_append]; exact Nat.le_refl _, by rw [xe_sz_push]; exact Nat.le_refl _⟩
    exact List.all_eq_true.mp (show ([(29, 0), (31, 0), (33, 0), (35, 0), (37, 0), (39, 0), (41, 0), (43, 0), (45, 0), (47, 0), (49, 0), (51, 0), (125, 0), (0, 9), (115, 1), (66, 8), (115, 18), (71, 0), (132, 0)] : List (Nat × Nat)).all (fun l => (xT[l.1]?).isSome) = true from rfl) l (by simpa using hl)
set_option maxHeartbeats 1000000 in
theorem xo_Jok {p : Program} {l : Launch} {e : Env} {R : Room} {s : State} {m : MethodId} {args : Array Value} {below : List Frame} {meth : Method} {c : Code} {ov : List (List Int32)} {D : va_G} {cA : Nat → ClassId} {old : Nat → Nat} {base : Nat} (htr : l.stackTraces = false) (F : xe_F ov D cA old base p s m args meth c 195) (hX : xo_K base s) :
    ∀ (mj : Nat) (as : List Value) (h : xe_H) (r : Option Value) (h' : xe_H), xo_J ov 99 mj as h = some (r, h') → (h.length ≤ h'.length ∧ xe_sz h ≤ xe_sz h') ∧ ∀ (H : Heap) (locs : List Loc) (cells slots : Nat) (ls : Array Slot) (pc : Nat) (lv : List (Nat × Value)) (st st1 : List Value), xe_nx ov 195 (pc, lv, st, h) = some (.inr (.inr (mj, as, st1))) → xe_Rl D cA old base s.heap h H locs → lv_has ls (xe_mL 195) (lv.map (xe_q (xe_ad base old))) → 99 + 2 ≤ R.frames → (99 + 2) * 40 ≤ R.locals → cells + (h'.length - h.length) ≤ R.cells → slots + (xe_sz h' - xe_sz h) ≤ R.slots →
      va_Run p l e R s m args below meth c H locs cells slots (h'.length - h.length) (xe_sz h' - xe_sz h) (F0 m pc ls (st.map (xe_v (xe_ad base old)))) (st1.map (xe_v (xe_ad base old))) (xe_Qc D cA old base r h' #[]) (fun q => base ≤ q) := by
  intro mj as h r h' hj
  obtain ⟨-, hmj, v, has, hlt, ⟨fs, h0, h2⟩, ⟨fs6, h66⟩, hp⟩ := xo_J_spec hj
  subst hmj; subst has
  rcases hp with ⟨n, h1, x, y, hex, e167, K, hq⟩ | ⟨n, hex, hq⟩
  · have k2 := K.2.2.1
    have k3 := K.2.2.2
    have q1 : r = some (.int 0) := congrArg Prod.fst hq
    have q2 : h' = h1.set 167 (.inl (1, .inr (.inl [y]))) := congrArg Prod.snd hq
    subst q1; subst q2
    have e2 : xe_sz (h1.set 167 (.inl (1, .inr (.inl [y])))) = xe_sz h1 := xe_sz_set e167 rfl
    have hM := xo_met195n (l := l) (D := D) (cA := cA) (old := old) (base := base) (d := 97) (o := 167) h0 hex e167
    refine ⟨⟨by rw [List.length_set, k2]; exact Nat.le_refl _, by rw [e2, k3]; exact Nat.le_refl _⟩, ?_⟩
    intro H locs cells slots ls pc lv st st1 hn hR hl hfr hlo hc hs
    rw [List.length_set] at hc ⊢
    rw [e2] at hs ⊢
    exact xo_call F hX hn hR hl hM hfr hlo ⟨hc, hs⟩
  · have q1 : r = some (.int 1) := congrArg Prod.fst hq
    have q2 : h' = h ++ [xo_e] := congrArg Prod.snd hq
    subst q1; subst q2
    have e1 : (h ++ [xo_e]).length - h.length = 1 := by rw [List.length_append]; show h.length + 1 - h.length = 1; omega
    have e3 : xe_sz (h ++ [xo_e]) = xe_sz h + 6 := xe_sz_push _ _
    have e2 : xe_sz (h ++ [xo_e]) - xe_sz h = 6 := by rw [e3]; omega
    have hM := xo_met195x (l := l) htr (D := D) (cA := cA) (old := old) (base := base) (d := 97) (o := 167) (by decide) hlt h0 h2 h66 hex
    refine ⟨⟨by rw [List.length_append]; exact Nat.le_add_right _ _, by rw [e3]; exact Nat.le_add_right _ _⟩, ?_⟩
    intro H locs cells slots ls pc lv st st1 hn hR hl hfr hlo hc hs
    rw [e1] at hc ⊢
    rw [e2] at hs ⊢
    exact xo_call F hX hn hR hl hM hfr hlo ⟨hc, hs⟩
