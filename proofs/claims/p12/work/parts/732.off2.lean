/-! The law's own 'off': out of a throw, and out of an answer -/
def xo_W : List Jvm.Cond := Jvm.Cond.codeWith (xe_mY 194) (xe_mB 194) 4 (some .int) [(0, 8, 11, 13)] :: xe_G
theorem xo_Wgood : GoodIn xe_G xo_W := by
  intro w hw
  have h1 : w ∈ xe_G := by
    rcases List.mem_cons.mp hw with q | q
    · rw [q]; exact xo_w8
    · exact q
  exact ⟨h1, good_of_word (List.mem_filter.mp h1).2⟩
theorem xo_d195 : decode (xe_mB 194) 0 = .ok (.aload_n 2, 1) ∧ decode (xe_mB 194) 1 = .ok (.iconst 0, 1) ∧ decode (xe_mB 194) 2 = .ok (.aload_n 0, 1) ∧ decode (xe_mB 194) 3 = .ok (.iload_n 1, 1) ∧ decode (xe_mB 194) 4 = .ok (.invokevirtual 7, 3) ∧ decode (xe_mB 194) 7 = .ok (.lastore, 1) ∧ decode (xe_mB 194) 8 = .ok (.goto 6, 3) ∧ decode (xe_mB 194) 11 = .ok (.astore_n 3, 1) ∧ decode (xe_mB 194) 12 = .ok (.iconst 1, 1) ∧ decode (xe_mB 194) 13 = .ok (.ireturn, 1) ∧ decode (xe_mB 194) 14 = .ok (.iconst 0, 1) ∧ decode (xe_mB 194) 15 = .ok (.ireturn, 1) := by decide +kernel
theorem xo_m195 : xe_mL 194 = 4 ∧ xe_mR 194 = some .int ∧ (xe_mY 194).cls = "DampHouseLaw" ∧ (xe_mY 193).cls = "DampHouse" := by decide +kernel
theorem xo_c0 : (xe_cls[0]?).map (fun q => q.1) = some "DampHouse" := by decide +kernel
section XP
variable {p : Program} {l : Launch} {e : Env} {R : Room} {s : State} {m : MethodId} {args : Array Value} {below : List Frame} {meth : Method} {c : Code} {H : Heap} {locs : List Loc} {cells slots : Nat} {Q : State → Prop}
variable {ov : List (List Int32)} {D : va_G} {cA : Nat → ClassId} {old : Nat → Nat} {base mi pc : Nat} {ls : Array Slot} {rest : List Value} {h h' : xe_H}
theorem xo_recv (F : xe_F ov D cA old base p s m args meth c mi) (hR : xe_Rl D cA old base s.heap h H locs) {fs : List Value} (h0 : h[0]? = some (.inr (0, fs))) : ∃ cell : Cell, H[xe_ad base old 0]? = some cell ∧ cell.vm.isStatics = false ∧ s.vm.findClass (xe_mY 193).cls = some cell.cls := by
  obtain ⟨-, -, -, -, -, -, -, -, -, hK⟩ := F
  cases hq : xe_cls[0]? with
  | none => have := xo_c0; rw [hq] at this; cases this
  | some q =>
    have e1 : q.1 = "DampHouse" := by have := xo_c0; rw [hq] at this; exact Option.some.inj this
    obtain ⟨hbo, hat⟩ := hR.obj h0 hq
    have hrecv := va_recv hK.1 (xe_one hat) hq (q0 := 0) rfl
    rw [e1, ← xo_m195.2.2.2] at hrecv
    rw [xe_ad_lt hbo]
    exact hrecv
theorem xo_cw {mc ms d : Nat} (F : xe_F ov D cA old base p s m args meth c 194) (hR : (xe_rm d mc ms).frames + 1 ≤ R.frames ∧ 8 + (xe_mL 193 + 11) + (xe_rm d mc ms).locals ≤ R.locals) : CallW R s args "DampHouseLaw" (xe_mY 193).cls 7 (xe_mY 193) (xe_mB 193) (xe_mL 193) (xe_mR 193) (xe_Ws 193) (xe_rm d mc ms) mc ms ((xe_mk 193).getD 1 0) := by
  obtain ⟨-, -, -, -, hts, -⟩ := F
  obtain ⟨m1, m2, m3, m4, m5, m6, m7, m8, m9⟩ := xe_mok (mj := 193) (by rw [xo_k194]; decide)
  obtain ⟨v1, -⟩ := m8 xo_k194
  exact ⟨callB_of _ hts (xe_good m1) rfl rfl rfl (hts _ m2) (hts _ xo_w3) ⟨m4, m5, m6⟩ hR, hts _ (m9 (by rw [xo_k194]; decide)), hts _ v1⟩
end XP
theorem xo_n194 : (xe_mk 193).getD 1 0 = 1 := by decide +kernel
theorem xo_ml194 : xe_mL 193 = 2 := ml_193
set_option maxHeartbeats 2000000 in
theorem xo_met195x {ov : List (List Int32)} {l : Launch} (htr : l.stackTraces = false) {D : va_G} {cA : Nat → ClassId} {old : Nat → Nat} {base d o : Nat} (hd : 4 ≤ d) {v : Int32} {h : xe_H} (hlt : h.length < xe_o) {fs fs6 : List Value} (h0 : h[0]? = some (.inr (0, fs))) (h2 : fs[2]? = some (.ref 66)) (h66 : h[66]? = some (.inr (3, fs6))) {n : Nat} (hex : xe_ex xe_J0 ov n d 138 (0, lv_args 0 [.ref 66, .int v], [], h) = some (some (.int 0), h)) :
    vx_Met l (xe_mY 194) xo_W (xe_rm (d + 2) 1 6) (xo_Pc ov D cA old base [.ref 0, .int v, .ref o] h) (xe_Qc D cA old base (some (.int 1)) (h ++ [xo_e])) (fun _ _ _ => False) 1 6 (fun q => base ≤ q) := by
  refine vx_ofWH (cc := xe_mB 194) (maxL := 4) (ret := some .int) (hh := [(0, 8, 11, 13)]) (by decide +kernel) rfl ?_
  intro p e s m args below meth c s₁ B hml hv
  obtain ⟨⟨rfl, hbs, hK, hR⟩, hX⟩ := hv
  have hts0 := atoms_spec (ws := xo_W) B.pre
  have htab := vx_table (x := xe_mY 194) B (hts0 _ List.mem_cons_self)
  have F : xe_F ov D cA old base p s m (([.ref 0, .int v, .ref o] : List Value).map (xe_v (xe_ad base old))).toArray meth c 194 := ⟨B.exec, B.bytes, hml.trans xo_m195.1.symm, findClass_of_methodNamed B.named, fun w hw => hts0 w (List.mem_cons_of_mem _ hw), B.returns.trans xo_m195.2.1.symm, B.notSynchronized, fun q => (name_of_methodNamed B.named B.method).1.trans q, hbs, hK⟩
  have hlen : (lg_sl (([.ref 0, .int v, .ref o] : List Value).map (xe_v (xe_ad base old)))).length ≤ 4 := by
    rw [xe_lg_len, xe_cats]; exact Nat.le_of_ble_eq_true rfl
  have hl := lv_entry (([.ref 0, .int v, .ref o] : List Value).map (xe_v (xe_ad base old))) (n := 4) hlen
  rw [lg_entry_eq]
  generalize (lg_sl (([.ref 0, .int v, .ref o] : List Value).map (xe_v (xe_ad base old))) ++ List.replicate (4 - (lg_sl (([.ref 0, .int v, .ref o] : List Value).map (xe_v (xe_ad base old)))).length) Slot.unset).toArray = ls at hl ⊢
  rw [← xe_args_map] at hl
  obtain ⟨c0, c1, c2, c3, c4, -, -, c11, c12, c13, -, -⟩ := xo_d195
  have F' := F
  obtain ⟨hx, hb, hml', hown, hts, hret, hlk, -⟩ := F'
  have hM := xo_met194 (D := D) (cA := cA) (old := old) (base := base) htr hd h0 h2 h66 hex
  refine lv_aload_n hx hb c0 rfl (xe_rd hl (i := 2) (v := .ref o) rfl) ?_
  refine lv_iconst hx hb c1 (v := 0) rfl ?_
  refine lv_aload_n hx hb c2 rfl (xe_rd hl (i := 0) (v := .ref 0) rfl) ?_
  refine lv_iload_n hx hb c3 rfl (xe_rd hl (i := 1) (v := .int v) rfl) ?_
  have hr := vx_runV (R := xe_rm (d + 2) 1 6) (below := below) (e := e) (cells := 0) (slots := 0) (locs := []) (H := s.heap) (g := F0 m 4 ls [.int v, .ref (xe_ad base old 0), .int 0, .ref (xe_ad base old o)]) (rest := [.int 0, .ref (xe_ad base old o)]) (As := [.int v]) (b := xe_ad base old 0) (C := (xe_mY 193).cls) (cc := xe_mB 194) (nL := 4) (Ts := xe_G) (own := "DampHouseLaw") (meth := meth)
    ⟨hx, hb, hml, hown, hts⟩ hM (xo_cw (R := xe_rm (d + 2) 1 6) (d := d + 1) (mc := 1) (ms := 6) F ⟨Nat.le_refl _, by rw [xo_ml194]; show 8 + (2 + 11) + (d + 1 + 1) * 40 ≤ (d + 2 + 1) * 40; omega⟩) ⟨xo_Pc.blind, xo_recv F hR h0, (xo_pre F hR hX [.ref 0, .int v]).2⟩ rfl xo_n194.symm hl.1 rfl (Nat.le_of_ble_eq_true rfl) c4 ⟨Nat.le_refl _, Nat.le_refl _⟩
  intro T hT X
  rcases hr T hT X with ⟨v', st₀, t, T', L, e0, X', hL, e1, e2, hF, st⟩ | ⟨q, st₀, t, T', L, E, ce, e0, X', hL, e1, e2, ⟨hE, H1, locs1, hR1, hsz, hkeep⟩, hce, hcv, hcl, st⟩
  · exact hF.elim
  · subst hE
    rw [e0] at hR1
    rw [← e1] at hsz hkeep hce
    have z1 : T'.heap.size ≤ s.heap.size + (0 + 1) := X'.heapSize
    have z2 : s.heap.size = base + h.length := hR.1
    have z3 : H1.size = base + h.length := hR1.1
    have hRl : xe_Rl D cA old base s.heap (h ++ [xo_e]) T'.heap ([] ++ L) := by
      refine ⟨by rw [List.length_append]; show _ = base + (h.length + 1); omega, by rw [List.length_append]; show h.length + 1 ≤ _; omega, ⟨by omega, fun q h1 h2 => ?_, fun q hq => ?_⟩, fun k x hk => ?_⟩
      · rw [hkeep q (by omega)]
        exact hR1.2.2.1.2.1 q h1 h2
      · rcases List.mem_append.mp hq with h3 | h3
        · cases h3
        · exact hL q h3
      · by_cases hkl : k < h.length
        · rw [List.getElem?_append_left hkl] at hk
          rcases hR1.2.2.2 k x hk with h3 | h3
          · exact Or.inl h3
          · exact Or.inr (h3.kept (hkeep _ (by omega)))
        · rw [List.getElem?_append_right (by omega)] at hk
          have hz : k - h.length < 1 := (List.getElem?_eq_some_iff.mp hk).1
          have ek : k = h.length := by omega
          subst ek
          rw [Nat.sub_self] at hk
          cases hk
          exact Or.inl (by decide)
    have hw := xo_catch (p := p) (l := l) (e := e) (R := xe_rm (d + 2) 1 6) (s := s) (below := below) (meth := meth) (H := T'.heap) (locs := [] ++ L) (cells := 0 + 1) (slots := 0 + 6) (Q := vx_MQ below (xe_Qc D cA old base (some (.int 1)) (h ++ [xo_e])) (fun _ _ _ => False) (([.ref 0, .int v, .ref o] : List Value).map (xe_v (xe_ad base old))).toArray s 1 6 (fun q => base ≤ q)) (pc := 4) (ls := ls) (rest := [.int 0, .ref (xe_ad base old o)]) (own := "DampHouseLaw") (name := xo_E) (E := xo_E) (ce := ce) (q := q) hown ⟨0, 8, 11, 13⟩ (htab.trans rfl) rfl (by decide) (hts _ xo_w4) (va_Nw.use rfl hX.2.2.2.1) hce hcv hcl (by
      refine lv_astore_n hx hb c11 rfl hl (by decide) rfl (fun ls' hl' => ?_)
      refine lv_iconst hx hb c12 (v := 1) rfl ?_
      exact vx_ret (W.zret hx hb (hret.trans xo_m195.2.1) rfl (fun t ht hW => ⟨rfl, by rw [ht]; exact ⟨hRl.1, hRl.2.1, ⟨hRl.2.2.1.1, hRl.2.2.1.2.1, fun q hq => by cases hq⟩, hRl.2.2.2⟩⟩) hRl.2.2.1.2.2 c13 hlk))
    obtain ⟨t2, a1, b1⟩ := hw T' rfl X'
    exact ⟨t2, st.trans a1, b1⟩
set_option maxHeartbeats 2000000 in
theorem xo_met195n {ov : List (List Int32)} {l : Launch} {D : va_G} {cA : Nat → ClassId} {old : Nat → Nat} {base d o : Nat} {v : Int32} {h h1 : xe_H} {fs : List Value} (h0 : h[0]? = some (.inr (0, fs))) {n : Nat} {w x : Int64} (hex : xe_ex xe_J0 ov n (d + 1) 193 (0, lv_args 0 [.ref 0, .int v], [], h) = some (some (.long w), h1)) (ho : h1[o]? = some (.inl (1, .inr (.inl [x])))) :
    vx_Met l (xe_mY 194) xo_W (xe_rm (d + 2) (h1.length - h.length) (xe_sz h1 - xe_sz h)) (xo_Pc ov D cA old base [.ref 0, .int v, .ref o] h) (xe_Qc D cA old base (some (.int 0)) (h1.set o (.inl (1, .inr (.inl [w]))))) (fun _ _ _ => False) (h1.length - h.length) (xe_sz h1 - xe_sz h) (fun q => base ≤ q) := by
  refine vx_ofWH (cc := xe_mB 194) (maxL := 4) (ret := some .int) (hh := [(0, 8, 11, 13)]) (by decide +kernel) rfl ?_
  intro p e s m args below meth c s₁ B hml hv
  obtain ⟨⟨rfl, hbs, hK, hR⟩, hX⟩ := hv
  have hts0 := atoms_spec (ws := xo_W) B.pre
  have F : xe_F ov D cA old base p s m (([.ref 0, .int v, .ref o] : List Value).map (xe_v (xe_ad base old))).toArray meth c 194 := ⟨B.exec, B.bytes, hml.trans xo_m195.1.symm, findClass_of_methodNamed B.named, fun w hw => hts0 w (List.mem_cons_of_mem _ hw), B.returns.trans xo_m195.2.1.symm, B.notSynchronized, fun q => (name_of_methodNamed B.named B.method).1.trans q, hbs, hK⟩
  have hlen : (lg_sl (([.ref 0, .int v, .ref o] : List Value).map (xe_v (xe_ad base old)))).length ≤ 4 := by
    rw [xe_lg_len, xe_cats]; exact Nat.le_of_ble_eq_true rfl
  have hl := lv_entry (([.ref 0, .int v, .ref o] : List Value).map (xe_v (xe_ad base old))) (n := 4) hlen
  rw [lg_entry_eq]
  generalize (lg_sl (([.ref 0, .int v, .ref o] : List Value).map (xe_v (xe_ad base old))) ++ List.replicate (4 - (lg_sl (([.ref 0, .int v, .ref o] : List Value).map (xe_v (xe_ad base old)))).length) Slot.unset).toArray = ls at hl ⊢
  rw [← xe_args_map] at hl
  obtain ⟨c0, c1, c2, c3, c4, c7, c8, -, -, -, c14, c15⟩ := xo_d195
  have F' := F
  obtain ⟨hx, hb, hml', hown, hts, hret, hlk, -⟩ := F'
  have hM := xe_met_of (D := D) (cA := cA) (old := old) (base := base) (xe_sound (l := l) (xe_J0ok (ov := ov)) n) hex (xm_le ml_193 rfl) (by rw [xo_k194]; decide)
  refine lv_aload_n hx hb c0 rfl (xe_rd hl (i := 2) (v := .ref o) rfl) ?_
  refine lv_iconst hx hb c1 (v := 0) rfl ?_
  refine lv_aload_n hx hb c2 rfl (xe_rd hl (i := 0) (v := .ref 0) rfl) ?_
  refine lv_iload_n hx hb c3 rfl (xe_rd hl (i := 1) (v := .int v) rfl) ?_
  have hr := va_runV (R := xe_rm (d + 2) (h1.length - h.length) (xe_sz h1 - xe_sz h)) (below := below) (e := e) (cells := 0) (slots := 0) (locs := []) (H := s.heap) (g := F0 m 4 ls [.int v, .ref (xe_ad base old 0), .int 0, .ref (xe_ad base old o)]) (rest := [.int 0, .ref (xe_ad base old o)]) (As := [.int v]) (b := xe_ad base old 0) (C := (xe_mY 193).cls) (cc := xe_mB 194) (nL := 4) (Ts := xe_G) (own := "DampHouseLaw") (meth := meth)
    ⟨hx, hb, hml, hown, hts⟩ hM (xo_cw (R := xe_rm (d + 2) (h1.length - h.length) (xe_sz h1 - xe_sz h)) (d := d + 1) (mc := h1.length - h.length) (ms := xe_sz h1 - xe_sz h) F ⟨Nat.le_refl _, by rw [xo_ml194]; show 8 + (2 + 11) + (d + 1 + 1) * 40 ≤ (d + 2 + 1) * 40; omega⟩) ⟨xe_Pc.blind, xo_recv F hR h0, (xe_pre F hR [.ref 0, .int v]).2⟩ rfl xo_n194.symm hl.1 rfl (Nat.le_of_ble_eq_true rfl) c4 ⟨by rw [Nat.zero_add]; exact Nat.le_refl _, by rw [Nat.zero_add]; exact Nat.le_refl _⟩
  refine xe_called hr hR (fun H1 locs1 hR1 => ?_)
  refine xe_wlst (mi := 194) (i := 0) (v := w) F hR1 ho rfl (show ¬ ((0 : Int32) < 0 ∨ 1 ≤ (0 : Int32).toNatClampNeg) by decide) c7 (fun H2 locs2 hR2 => ?_)
  refine lv_goto hx hb c8 (tgt := 14) rfl ?_
  refine lv_iconst hx hb c14 (v := 0) rfl ?_
  rw [Nat.zero_add, Nat.zero_add]
  exact vx_ret (W.zret hx hb (hret.trans xo_m195.2.1) rfl (fun t ht hW => ⟨rfl, by rw [ht]; exact ⟨hR2.1, hR2.2.1, ⟨hR2.2.2.1.1, hR2.2.2.1.2.1, fun q hq => by cases hq⟩, hR2.2.2.2⟩⟩) hR2.2.2.1.2.2 c15 hlk)
