/-! Runs in which calls from the first frame may be answered otherwise -/
theorem xe_low {J : xe_J} {ov : List (List Int32)} {dt : Nat} (hlow : ∀ d mj as h, d < dt → J d mj as h = none) : ∀ (n d mi : Nat) (S : xe_S), d ≤ dt → xe_ex J ov n d mi S = xe_ex xe_J0 ov n d mi S := by
  intro n
  induction n with
  | zero => intro d mi S _; rfl
  | succ n ih =>
    intro d mi S hd
    rw [xe_ex_succ, xe_ex_succ]
    cases xe_nx ov mi S with
    | none => rfl
    | some y =>
      rcases y with S' | r | ⟨mj, as, st1⟩
      · exact ih d mi S' hd
      · rfl
      · cases d with
        | zero => rfl
        | succ d' =>
          dsimp only
          have e0 : xe_J0 d' mj as S.2.2.2 = none := rfl
          rw [hlow d' mj as _ (by omega), e0]
          dsimp only
          rw [ih d' mj _ (by omega)]
          generalize (if (as.map fun v : Value => v.category).sum ≤ xe_mL mj then xe_ex xe_J0 ov n d' mj (0, lv_args 0 as, [], S.2.2.2) else none) = q
          cases q with
          | none => rfl
          | some q =>
            obtain ⟨r2, h2⟩ := q
            exact ih (d' + 1) mi _ hd
set_option maxHeartbeats 1000000 in
theorem xe_top {J : xe_J} {ov : List (List Int32)} {l : Launch} {dt : Nat} (hlow : ∀ d mj as h, d < dt → J d mj as h = none) {p : Program} {e : Env} {R : Room} {s : State} {m : MethodId} {args : Array Value} {below : List Frame} {meth : Method} {c : Code} {D : va_G} {cA : Nat → ClassId} {old : Nat → Nat} {base mi : Nat} (F : xe_F ov D cA old base p s m args meth c mi)
    (hJ : ∀ (mj : Nat) (as : List Value) (h : xe_H) (r : Option Value) (h' : xe_H), J dt mj as h = some (r, h') → (h.length ≤ h'.length ∧ xe_sz h ≤ xe_sz h') ∧ ∀ (H : Heap) (locs : List Loc) (cells slots : Nat) (ls : Array Slot) (pc : Nat) (lv : List (Nat × Value)) (st st1 : List Value), xe_nx ov mi (pc, lv, st, h) = some (.inr (.inr (mj, as, st1))) → xe_Rl D cA old base s.heap h H locs → lv_has ls (xe_mL mi) (lv.map (xe_q (xe_ad base old))) → dt + 2 ≤ R.frames → (dt + 2) * 40 ≤ R.locals → cells + (h'.length - h.length) ≤ R.cells → slots + (xe_sz h' - xe_sz h) ≤ R.slots →
      va_Run p l e R s m args below meth c H locs cells slots (h'.length - h.length) (xe_sz h' - xe_sz h) (F0 m pc ls (st.map (xe_v (xe_ad base old)))) (st1.map (xe_v (xe_ad base old))) (xe_Qc D cA old base r h' #[]) (fun q => base ≤ q)) :
    ∀ (n : Nat) (S : xe_S) (r : Option Value) (h' : xe_H), xe_ex J ov n (dt + 1) mi S = some (r, h') → (S.2.2.2.length ≤ h'.length ∧ xe_sz S.2.2.2 ≤ xe_sz h') ∧
      ∀ (H : Heap) (locs : List Loc) (Q : State → Prop) (ls : Array Slot) (n0 z0 : Nat), xe_Rl D cA old base s.heap S.2.2.2 H locs → lv_has ls (xe_mL mi) (S.2.1.map (xe_q (xe_ad base old))) → n0 ≤ S.2.2.2.length → z0 ≤ xe_sz S.2.2.2 → h'.length ≤ n0 + R.cells → xe_sz h' ≤ z0 + R.slots → dt + 2 ≤ R.frames → (dt + 2) * 40 ≤ R.locals →
        (∀ (pc : Nat) (ls1 : Array Slot) (H1 : Heap) (locs1 : List Loc), xe_Rl D cA old base s.heap h' H1 locs1 → xe_rt mi r pc → W p l e R s m args below meth c H1 locs1 (h'.length - n0) (xe_sz h' - z0) Q (F0 m pc ls1 ((r.toList).map (xe_v (xe_ad base old))))) →
        W p l e R s m args below meth c H locs (S.2.2.2.length - n0) (xe_sz S.2.2.2 - z0) Q (F0 m S.1 ls (S.2.2.1.map (xe_v (xe_ad base old)))) := by
  intro n
  induction n with
  | zero => intro S r h' hex; cases hex
  | succ n ih =>
    intro S r h' hex
    rw [xe_ex_succ] at hex
    cases hnx : xe_nx ov mi S with
    | none => rw [hnx] at hex; cases hex
    | some y =>
    rw [hnx] at hex
    rcases y with S' | r1 | ⟨mj, as, st1⟩
    · dsimp only at hex
      obtain ⟨⟨g1, g2⟩, hw⟩ := ih S' r h' hex
      have hm : S.2.2.2.length ≤ S'.2.2.2.length ∧ xe_sz S.2.2.2 ≤ xe_sz S'.2.2.2 := by
        have hnx2 := hnx
        unfold xe_nx at hnx2
        split at hnx2
        · exact xe_mono hnx2
        · cases hnx2
      refine ⟨⟨Nat.le_trans hm.1 g1, Nat.le_trans hm.2 g2⟩, ?_⟩
      intro H locs Q ls n0 z0 hR hl hn0 hz0 hc hs hfr hlo kr
      exact xe_step F hnx hR hl hn0 hz0 (Nat.le_trans g1 hc) (Nat.le_trans g2 hs) (by omega) (by omega) (fun H1 locs1 ls1 hR1 hl1 => hw H1 locs1 Q ls1 n0 z0 hR1 hl1 (Nat.le_trans hn0 hm.1) (Nat.le_trans hz0 hm.2) hc hs hfr hlo kr)
    · dsimp only at hex
      have e1 := Option.some.inj hex
      have e2 : r1 = r := congrArg Prod.fst e1
      have e3 : S.2.2.2 = h' := congrArg Prod.snd e1
      subst e2; subst e3
      refine ⟨⟨Nat.le_refl _, Nat.le_refl _⟩, ?_⟩
      intro H locs Q ls n0 z0 hR hl hn0 hz0 hc hs hfr hlo kr
      unfold xe_nx at hnx
      split at hnx
      · rename_i i ax hcode
        obtain ⟨q1, q2⟩ := xe_ret_of hnx (xe_ok hcode).1
        rw [q2]
        exact kr S.1 ls H locs hR q1
      · cases hnx
    · dsimp only at hex
      have hq : ∃ r2 h2, (J dt mj as S.2.2.2 = some (r2, h2) ∨ ((as.map fun v : Value => v.category).sum ≤ xe_mL mj ∧ xe_ex xe_J0 ov n dt mj (0, lv_args 0 as, [], S.2.2.2) = some (r2, h2))) ∧ xe_ex J ov n (dt + 1) mi (S.1 + 3, S.2.1, r2.toList ++ st1, h2) = some (r, h') := by
        cases hj : J dt mj as S.2.2.2 with
        | some q =>
          rw [hj] at hex
          obtain ⟨r2, h2⟩ := q
          exact ⟨r2, h2, Or.inl rfl, hex⟩
        | none =>
          rw [hj] at hex
          dsimp only at hex
          by_cases hcat : (as.map fun v : Value => v.category).sum ≤ xe_mL mj
          · rw [if_pos hcat] at hex
            cases hz : xe_ex J ov n dt mj (0, lv_args 0 as, [], S.2.2.2) with
            | none => rw [hz] at hex; cases hex
            | some q =>
              rw [hz] at hex
              obtain ⟨r2, h2⟩ := q
              exact ⟨r2, h2, Or.inr ⟨hcat, (xe_low hlow n dt mj _ (Nat.le_refl _)).symm.trans hz⟩, hex⟩
          · rw [if_neg hcat] at hex
            cases hex
      obtain ⟨r2, h2, hcall, hrest⟩ := hq
      obtain ⟨⟨g1, g2⟩, hw⟩ := ih _ r h' hrest
      dsimp only at g1 g2 hw
      have hsd := xe_sound (l := l) (xe_J0ok (ov := ov)) n
      have hm : S.2.2.2.length ≤ h2.length ∧ xe_sz S.2.2.2 ≤ xe_sz h2 := by
        rcases hcall with q | ⟨-, q⟩
        · exact (hJ mj as _ r2 h2 q).1
        · exact (hsd dt mj _ r2 h2 q).1
      refine ⟨⟨Nat.le_trans hm.1 g1, Nat.le_trans hm.2 g2⟩, ?_⟩
      intro H locs Q ls n0 z0 hR hl hn0 hz0 hc hs hfr hlo kr
      have hrun : va_Run p l e R s m args below meth c H locs (S.2.2.2.length - n0) (xe_sz S.2.2.2 - z0) (h2.length - S.2.2.2.length) (xe_sz h2 - xe_sz S.2.2.2) (F0 m S.1 ls (S.2.2.1.map (xe_v (xe_ad base old)))) (st1.map (xe_v (xe_ad base old))) (xe_Qc D cA old base r2 h2 #[]) (fun q => base ≤ q) := by
        rcases hcall with q | ⟨hcat, q⟩
        · exact (hJ mj as _ r2 h2 q).2 H locs _ _ ls S.1 S.2.1 S.2.2.1 st1 hnx hR hl hfr hlo (by omega) (by omega)
        · rcases xe_callk hnx with hk | hk
          · exact xe_run F hnx hR hl hk (xe_met_of hsd q hcat hk) hfr hlo ⟨by omega, by omega⟩
          · rw [hk] at q
            exact absurd q (xe_loff_none n dt _ _)
      refine xe_called hrun hR (fun H1 locs1 hR1 => ?_)
      have key := hw H1 locs1 Q ls n0 z0 hR1 hl (Nat.le_trans hn0 hm.1) (Nat.le_trans hz0 hm.2) hc hs hfr hlo kr
      refine W.widen (k := h2.length - n0) (n := xe_sz h2 - z0) (by omega) (by omega) ?_
      rw [List.map_append] at key
      have e5 : (r2.map (xe_v (xe_ad base old))).toList = r2.toList.map (xe_v (xe_ad base old)) := by cases r2 <;> rfl
      rw [e5]
      exact key
/-! Where the law calls its own 'off', and what that call does -/
theorem xo_all : (xe_cds.getD 195 []).all (fun q => !(q.2.2.headD 0 == 194 && xe_isC q.2.1) || q.1 == 798) = true := by decide +kernel
theorem xo_pcs {pc : Nat} {i : Instr} {ax : List Nat} (hc : xe_code 195 pc = some (i, ax)) (hi : xe_isC i = true) (ha : ax.headD 0 = 194) : pc = 798 := by
  unfold xe_code at hc
  cases hf : (xe_cds.getD 195 []).find? (fun q => q.1 == pc) with
  | none => rw [hf] at hc; cases hc
  | some q =>
    rw [hf] at hc
    have h1 := List.find?_some hf
    have h2 := List.all_eq_true.mp xo_all q (List.mem_of_find?_eq_some hf)
    have e1 : q.2 = (i, ax) := Option.some.inj hc
    rw [e1, Bool.or_eq_true, Bool.not_eq_true', beq_iff_eq] at h2
    rcases h2 with h2 | h2
    · rw [hi, Bool.and_true, beq_eq_false_iff_ne] at h2
      exact absurd ha h2
    · exact (beq_iff_eq.mp h1).symm.trans h2
theorem xo_at {ov : List (List Int32)} {pc : Nat} {lv : List (Nat × Value)} {st as st1 : List Value} {h : xe_H} (hn : xe_nx ov 195 (pc, lv, st, h) = some (.inr (.inr (194, as, st1)))) : pc = 798 ∧ (st.take 3).reverse = as ∧ st.drop 3 = st1 ∧ 3 ≤ st.length ∧ (st1.map fun v : Value => v.category).sum ≤ 8 := by
  have hpc : pc = 798 := by
    unfold xe_nx at hn
    dsimp only at hn
    cases hcode : xe_code 195 pc with
    | none => rw [hcode] at hn; cases hn
    | some q =>
      obtain ⟨i, ax⟩ := q
      rw [hcode] at hn
      dsimp only at hn
      cases i with
      | invokestatic idx =>
        obtain ⟨h1, hn⟩ := xe_if_inv hn
        exact xo_pcs hcode rfl (congrArg Prod.fst (Sum.inr.inj (Sum.inr.inj (Option.some.inj hn))))
      | invokevirtual idx =>
        obtain ⟨b, r1, h1, hn⟩ := xe_pR_inv hn
        obtain ⟨fs, hn, h2⟩ := xe_go_inv hn
        obtain ⟨h3, hn⟩ := xe_if_inv hn
        exact xo_pcs hcode rfl (congrArg Prod.fst (Sum.inr.inj (Sum.inr.inj (Option.some.inj hn))))
      | invokespecial idx =>
        obtain ⟨b, r1, h1, hn⟩ := xe_pR_inv hn
        obtain ⟨h3, hn⟩ := xe_if_inv hn
        by_cases q : ax.headD 0 = 0
        · rw [if_pos q] at hn
          cases hn
        · rw [if_neg q] at hn
          exact xo_pcs hcode rfl (congrArg Prod.fst (Sum.inr.inj (Sum.inr.inj (Option.some.inj hn))))
      | _ => exact absurd hn (xe_nocall rfl)
  subst hpc
  rw [xe_nx_of kc_195_798] at hn
  obtain ⟨⟨h1, h2⟩, hn⟩ := xe_if_inv hn
  have e1 := Sum.inr.inj (Sum.inr.inj (Option.some.inj hn))
  have e3 : (st.take 3).reverse = as := congrArg (fun q => q.2.1) e1
  have e4 : st.drop 3 = st1 := congrArg (fun q => q.2.2) e1
  exact ⟨rfl, e3, e4, h1, by rw [← e4]; exact h2⟩
theorem xo_d798 : decode (xe_mB 195) 798 = .ok (.invokestatic 81, 3) := by decide +kernel
theorem xo_y195 : (xe_mY 194).cls ≠ "java/lang/invoke/MethodHandle" ∧ (xe_mY 194).cls ≠ "java/lang/invoke/VarHandle" ∧ (parseMethodDescriptor (xe_mY 194).desc).map (fun d => d.parameters.length) = some 3 := by decide +kernel
theorem xo_m196 : (xe_mY 195).cls = "DampHouseLaw" := by decide +kernel
theorem xo_call {p : Program} {l : Launch} {e : Env} {R : Room} {s : State} {m : MethodId} {args : Array Value} {below : List Frame} {meth : Method} {c : Code} {H : Heap} {locs : List Loc} {cells slots : Nat} {ov : List (List Int32)} {D : va_G} {cA : Nat → ClassId} {old : Nat → Nat} {base pc d mc ms : Nat} {ls : Array Slot} {h h' : xe_H} {lv : List (Nat × Value)} {st as st1 : List Value} {r : Option Value}
    (F : xe_F ov D cA old base p s m args meth c 195) (hX : xo_K base s) (hn : xe_nx ov 195 (pc, lv, st, h) = some (.inr (.inr (194, as, st1)))) (hR : xe_Rl D cA old base s.heap h H locs) (hl : lv_has ls (xe_mL 195) (lv.map (xe_q (xe_ad base old))))
    (hM : vx_Met l (xe_mY 194) xo_W (xe_rm d mc ms) (xo_Pc ov D cA old base as h) (xe_Qc D cA old base r h') (fun _ _ _ => False) mc ms (fun q => base ≤ q)) (hfr : d + 2 ≤ R.frames) (hlo : (d + 2) * 40 ≤ R.locals) (hf : cells + mc ≤ R.cells ∧ slots + ms ≤ R.slots) :
    va_Run p l e R s m args below meth c H locs cells slots mc ms (F0 m pc ls (st.map (xe_v (xe_ad base old)))) (st1.map (xe_v (xe_ad base old))) (xe_Qc D cA old base r h' #[]) (fun q => base ≤ q) := by
  obtain ⟨rfl, e3, e4, h1, h2⟩ := xo_at hn
  subst e3; subst e4
  have F' := F
  obtain ⟨hx, hb, hml, hown, hts, -⟩ := F'
  have hlen : ((st.take 3).reverse.map (xe_v (xe_ad base old))).length = 3 := by rw [List.length_map, List.length_reverse, List.length_take]; omega
  have cw : vx_CSW R s args (xe_mY 195).cls 81 (xe_mY 194) (xe_mB 194) 4 (some .int) [(0, 8, 11, 13)] xo_W (xe_rm d mc ms) mc ms 3 :=
    ⟨⟨rfl, rfl, hfr, by show 8 + (4 + 11) + (d + 1) * 40 ≤ R.locals; omega, pay_in hts xo_Wgood, List.mem_cons_self⟩, hts _ xo_w8, hts _ xo_w7, ⟨xo_y195.1, xo_y195.2.1⟩, fun sig hsig => by
      have q := xo_y195.2.2
      rw [hsig] at q
      exact (Option.some.inj q).symm, by rw [xo_m196]; exact hts _ xo_w5, hts _ xo_w6⟩
  have hr := vx_runSX (p := p) (e := e) (below := below) (meth := meth) (cells := cells) (slots := slots) (locs := locs) (H := H) (g := F0 m 798 ls (st.map (xe_v (xe_ad base old)))) (rest := (st.drop 3).map (xe_v (xe_ad base old))) (As := (st.take 3).reverse.map (xe_v (xe_ad base old))) (cc := xe_mB 195) (nL := xe_mL 195) (Ts := xe_G) (own := (xe_mY 195).cls)
    ⟨hx, hb, hml, hown, hts⟩ hM cw (xo_pre F hR hX _) rfl hlen hl.1 (xe_take _) (lv_room (by rw [xe_cats]; exact h2)) xo_d798 hf
  intro T hT X
  rcases hr T hT X with q | ⟨q, st₀, t, T', L, E, ce, e0, X', hL, e1, e2, hF, -⟩
  · exact q
  · exact hF.elim
