/-! THE PURE MACHINE SPEAKS OF THE MACHINE -/
set_option maxHeartbeats 2000000 in
theorem xe_mono {ov : List (List Int32)} {mi : Nat} {i : Instr} {ax : List Nat} {pc : Nat} {lv : List (Nat × Value)} {st : List Value} {h : xe_H} {S' : xe_S} (hn : xe_i ov mi i ax pc lv st h = some (.inl S')) : h.length ≤ S'.2.2.2.length ∧ xe_sz h ≤ xe_sz S'.2.2.2 := by
  have push : ∀ x : xe_E, h.length ≤ (h ++ [x]).length ∧ xe_sz h ≤ xe_sz (h ++ [x]) := fun x => ⟨by simp, by rw [xe_sz_push]; omega⟩
  cases i with
  | iastore =>
    obtain ⟨v, r, rfl, hm1⟩ := xe_p1_inv hn
    obtain ⟨a, i, r, rfl, hm2⟩ := xe_pRI_inv hm1
    obtain ⟨t, x, hm3, h3, h4⟩ := xe_gw_inv hm2
    obtain ⟨h2, hm4⟩ := xe_if_inv hm3
    cases xe_on_inv hm4
    exact ⟨by simp, Nat.le_of_eq (xe_sz_set h3 (by simp [xe_w])).symm⟩
  | bastore =>
    obtain ⟨v, r, rfl, hm1⟩ := xe_p1_inv hn
    obtain ⟨a, i, r, rfl, hm2⟩ := xe_pRI_inv hm1
    obtain ⟨t, x, hm3, h3, h4⟩ := xe_gw_inv hm2
    obtain ⟨h2, hm4⟩ := xe_if_inv hm3
    cases xe_on_inv hm4
    exact ⟨by simp, Nat.le_of_eq (xe_sz_set h3 (by simp [xe_w])).symm⟩
  | lastore =>
    obtain ⟨v, r, rfl, hm1⟩ := xe_pL_inv hn
    obtain ⟨a, i, r, rfl, hm2⟩ := xe_pRI_inv hm1
    obtain ⟨t, x, hm3, h3, h4⟩ := xe_gl_inv hm2
    obtain ⟨h2, hm4⟩ := xe_if_inv hm3
    cases xe_on_inv hm4
    exact ⟨by simp, Nat.le_of_eq (xe_sz_set h3 (by simp [xe_w])).symm⟩
  | aastore =>
    obtain ⟨b, r, rfl, hm1⟩ := xe_pR_inv hn
    obtain ⟨a, i, r, rfl, hm2⟩ := xe_pRI_inv hm1
    obtain ⟨t, C, x, hm3, h3, h4⟩ := xe_gq_inv hm2
    split at hm3
    · obtain ⟨h2, hm4⟩ := xe_if_inv hm3
      cases xe_on_inv hm4
      exact ⟨by simp, Nat.le_of_eq (xe_sz_set h3 (by simp [xe_w])).symm⟩
    · cases hm3
  | putfield idx =>
    obtain ⟨v, r, rfl, hm1⟩ := xe_pA_inv hn
    obtain ⟨a, r, rfl, hm2⟩ := xe_pR_inv hm1
    obtain ⟨fs, hm3, h1⟩ := xe_go_inv hm2
    split at hm3
    · obtain ⟨h2, hm4⟩ := xe_if_inv hm3
      cases xe_on_inv hm4
      exact ⟨by simp, Nat.le_of_eq (xe_sz_set h1 (by simp [xe_w])).symm⟩
    · cases hm3
  | new idx =>
    obtain ⟨h1, hm1⟩ := xe_if_inv hn
    cases xe_on_inv hm1
    exact push _
  | anewarray idx =>
    obtain ⟨n, r, rfl, hm1⟩ := xe_p1_inv hn
    obtain ⟨h1, hm2⟩ := xe_if_inv hm1
    cases xe_on_inv hm2
    exact push _
  | newarray aty =>
    obtain ⟨n, r, rfl, hm1⟩ := xe_p1_inv hn
    obtain ⟨h1, hm2⟩ := xe_if_inv hm1
    cases aty with
    | int => cases xe_on_inv hm2; exact push _
    | boolean => cases xe_on_inv hm2; exact push _
    | long => cases xe_on_inv hm2; exact push _
    | _ => cases hm2
  | _ =>
    first
    | (cases hn; done)
    | (simp only [xe_i, xe_ldI, xe_ldL, xe_p1, xe_p2, xe_pL, xe_pLL, xe_pLI, xe_pR, xe_pRI, xe_pA, xe_gi, xe_gl, xe_gw, xe_gq, xe_go, xe_on] at hn; (repeat' (split at hn)) <;> first | (cases hn; done) | (cases hn; exact ⟨Nat.le_refl _, Nat.le_refl _⟩))
def xe_rt (mi : Nat) (r : Option Value) (pc : Nat) : Prop := match r with
  | none => decode (xe_mB mi) pc = .ok (.return_, 1) ∧ xe_mR mi = none
  | some (.int v) => decode (xe_mB mi) pc = .ok (.ireturn, 1) ∧ ∃ ty, xe_mR mi = some ty ∧ narrow ty (.int v) = .int v
  | some (.long _) => decode (xe_mB mi) pc = .ok (.lreturn, 1) ∧ xe_mR mi = some .long
  | some (.ref _) => decode (xe_mB mi) pc = .ok (.areturn, 1) ∧ xe_isR (xe_mR mi) = true
  | _ => False
set_option maxHeartbeats 2000000 in
theorem xe_ret_of {ov : List (List Int32)} {mi : Nat} {i : Instr} {ax : List Nat} {pc : Nat} {lv : List (Nat × Value)} {st : List Value} {h : xe_H} {r : Option Value} (hn : xe_i ov mi i ax pc lv st h = some (.inr (.inl r))) (hd : xe_dec mi pc i = true) : xe_rt mi r pc ∧ st = r.toList := by
  cases i with
  | return_ =>
    obtain ⟨⟨h1, h2⟩, hn⟩ := xe_if_inv hn
    cases hn
    exact ⟨⟨xe_dec_of hd rfl, h2⟩, h1⟩
  | ireturn =>
    dsimp only [xe_i] at hn
    split at hn
    · split at hn
      · rename_i ty hty
        obtain ⟨h1, hn⟩ := xe_if_inv hn
        cases hn
        exact ⟨⟨xe_dec_of hd rfl, ty, hty, h1⟩, rfl⟩
      · cases hn
    · cases hn
  | lreturn =>
    dsimp only [xe_i] at hn
    split at hn
    · obtain ⟨h1, hn⟩ := xe_if_inv hn
      cases hn
      exact ⟨⟨xe_dec_of hd rfl, h1⟩, rfl⟩
    · cases hn
  | areturn =>
    dsimp only [xe_i] at hn
    split at hn
    · obtain ⟨h1, hn⟩ := xe_if_inv hn
      cases hn
      exact ⟨⟨xe_dec_of hd rfl, h1⟩, rfl⟩
    · cases hn
  | invokestatic idx =>
    obtain ⟨h1, hn⟩ := xe_if_inv hn
    cases hn
  | invokevirtual idx =>
    obtain ⟨b, r, h1, hn⟩ := xe_pR_inv hn
    obtain ⟨fs, hn, h2⟩ := xe_go_inv hn
    obtain ⟨h3, hn⟩ := xe_if_inv hn
    cases hn
  | invokespecial idx =>
    obtain ⟨b, r, h1, hn⟩ := xe_pR_inv hn
    obtain ⟨h3, hn⟩ := xe_if_inv hn
    by_cases q : ax.headD 0 = 0
    · rw [if_pos q] at hn
      cases hn
    · rw [if_neg q] at hn
      cases hn
  | _ =>
    first
    | (cases hn; done)
    | (simp only [xe_i, xe_ldI, xe_ldL, xe_p1, xe_p2, xe_pL, xe_pLL, xe_pLI, xe_pR, xe_pRI, xe_pA, xe_gi, xe_gl, xe_gw, xe_gq, xe_go, xe_on] at hn; (repeat' (split at hn)) <;> (cases hn; done))
theorem xe_callk {ov : List (List Int32)} {mi : Nat} {S : xe_S} {mj : Nat} {as st1 : List Value} (hn : xe_nx ov mi S = some (.inr (.inr (mj, as, st1)))) : (xe_mk mj).headD 9 ≠ 9 ∨ mj = xe_loff := by
  obtain ⟨pc, lv, st, h⟩ := S
  unfold xe_nx at hn
  dsimp only at hn
  cases hcode : xe_code mi pc with
  | none => rw [hcode] at hn; cases hn
  | some q =>
  obtain ⟨i, ax⟩ := q
  rw [hcode] at hn
  dsimp only at hn
  obtain ⟨hd, hw⟩ := xe_ok hcode
  cases i with
  | invokestatic idx =>
    obtain ⟨h1, hn⟩ := xe_if_inv hn
    have e2 : ax.headD 0 = mj := congrArg Prod.fst (Sum.inr.inj (Sum.inr.inj (Option.some.inj hn)))
    subst e2
    dsimp only [xe_wd] at hw
    rw [Bool.and_eq_true, Bool.or_eq_true, Bool.and_eq_true, beq_iff_eq, beq_iff_eq, beq_iff_eq] at hw
    rcases hw.2 with q | q
    · exact Or.inr q
    · exact Or.inl (by rw [q.1]; decide)
  | invokevirtual idx =>
    obtain ⟨b, r1, h1, hn⟩ := xe_pR_inv hn
    obtain ⟨fs, hn, h2⟩ := xe_go_inv hn
    obtain ⟨h3, hn⟩ := xe_if_inv hn
    have e2 : ax.headD 0 = mj := congrArg Prod.fst (Sum.inr.inj (Sum.inr.inj (Option.some.inj hn)))
    subst e2
    dsimp only [xe_wd] at hw
    rw [Bool.and_eq_true, Bool.and_eq_true, Bool.and_eq_true, beq_iff_eq, beq_iff_eq, beq_iff_eq] at hw
    exact Or.inl (by rw [hw.1.1.2]; decide)
  | invokespecial idx =>
    obtain ⟨b, r1, h1, hn⟩ := xe_pR_inv hn
    obtain ⟨h3, hn⟩ := xe_if_inv hn
    by_cases q : ax.headD 0 = 0
    · rw [if_pos q] at hn
      cases hn
    · rw [if_neg q] at hn
      have e2 : ax.headD 0 = mj := congrArg Prod.fst (Sum.inr.inj (Sum.inr.inj (Option.some.inj hn)))
      subst e2
      dsimp only [xe_wd] at hw
      rw [if_neg q, Bool.and_eq_true, Bool.and_eq_true, beq_iff_eq, beq_iff_eq] at hw
      exact Or.inl (by rw [hw.1.2]; decide)
  | _ => exact absurd hn (xe_nocall rfl)
/-- calls whose ends are known otherwise: they run so -/
def xe_Jok (J : xe_J) (ov : List (List Int32)) (l : Launch) : Prop := ∀ (d mj : Nat) (as : List Value) (h : xe_H) (r : Option Value) (h' : xe_H), J d mj as h = some (r, h') → (h.length ≤ h'.length ∧ xe_sz h ≤ xe_sz h') ∧
  ∀ (p : Program) (e : Env) (R : Room) (s : State) (m : MethodId) (args : Array Value) (below : List Frame) (meth : Method) (c : Code) (H : Heap) (locs : List Loc) (cells slots : Nat) (D : va_G) (cA : Nat → ClassId) (old : Nat → Nat) (base mi : Nat) (ls : Array Slot) (pc : Nat) (lv : List (Nat × Value)) (st st1 : List Value),
    xe_F ov D cA old base p s m args meth c mi → xe_nx ov mi (pc, lv, st, h) = some (.inr (.inr (mj, as, st1))) → xe_Rl D cA old base s.heap h H locs → lv_has ls (xe_mL mi) (lv.map (xe_q (xe_ad base old))) → d + 2 ≤ R.frames → (d + 2) * 40 ≤ R.locals → cells + (h'.length - h.length) ≤ R.cells → slots + (xe_sz h' - xe_sz h) ≤ R.slots →
    va_Run p l e R s m args below meth c H locs cells slots (h'.length - h.length) (xe_sz h' - xe_sz h) (F0 m pc ls (st.map (xe_v (xe_ad base old)))) (st1.map (xe_v (xe_ad base old))) (xe_Qc D cA old base r h' #[]) (fun q => base ≤ q)
def xe_Snd (J : xe_J) (ov : List (List Int32)) (l : Launch) (n : Nat) : Prop := ∀ (d mi : Nat) (S : xe_S) (r : Option Value) (h' : xe_H), xe_ex J ov n d mi S = some (r, h') → (S.2.2.2.length ≤ h'.length ∧ xe_sz S.2.2.2 ≤ xe_sz h') ∧
  ∀ (p : Program) (e : Env) (R : Room) (s : State) (m : MethodId) (args : Array Value) (below : List Frame) (meth : Method) (c : Code) (H : Heap) (locs : List Loc) (Q : State → Prop) (D : va_G) (cA : Nat → ClassId) (old : Nat → Nat) (base : Nat) (ls : Array Slot) (n0 z0 : Nat),
    xe_F ov D cA old base p s m args meth c mi → xe_Rl D cA old base s.heap S.2.2.2 H locs → lv_has ls (xe_mL mi) (S.2.1.map (xe_q (xe_ad base old))) → n0 ≤ S.2.2.2.length → z0 ≤ xe_sz S.2.2.2 → h'.length ≤ n0 + R.cells → xe_sz h' ≤ z0 + R.slots → d + 1 ≤ R.frames → (d + 1) * 40 ≤ R.locals →
    (∀ (pc : Nat) (ls1 : Array Slot) (H1 : Heap) (locs1 : List Loc), xe_Rl D cA old base s.heap h' H1 locs1 → xe_rt mi r pc → W p l e R s m args below meth c H1 locs1 (h'.length - n0) (xe_sz h' - z0) Q (F0 m pc ls1 ((r.toList).map (xe_v (xe_ad base old))))) →
    W p l e R s m args below meth c H locs (S.2.2.2.length - n0) (xe_sz S.2.2.2 - z0) Q (F0 m S.1 ls (S.2.2.1.map (xe_v (xe_ad base old))))
theorem xe_met_of {J : xe_J} {ov : List (List Int32)} {l : Launch} {n : Nat} (hs : xe_Snd J ov l n) {D : va_G} {cA : Nat → ClassId} {old : Nat → Nat} {base d mj : Nat} {as : List Value} {h h' : xe_H} {r : Option Value} (hex : xe_ex J ov n d mj (0, lv_args 0 as, [], h) = some (r, h')) (hcat : (as.map fun v : Value => v.category).sum ≤ xe_mL mj) (hk : (xe_mk mj).headD 9 ≠ 9) :
    Met l (xe_mY mj) (xe_Ws mj) (xe_rm d (h'.length - h.length) (xe_sz h' - xe_sz h)) (xe_Pc ov D cA old base as h) (xe_Qc D cA old base r h') (h'.length - h.length) (xe_sz h' - xe_sz h) (fun q => base ≤ q) := by
  obtain ⟨⟨g1, g2⟩, hw⟩ := hs d mj _ r h' hex
  dsimp only at g1 g2
  refine va_MetF (cc := xe_mB mj) (maxL := xe_mL mj) (ret := xe_mR mj) (xe_mok hk).2.2.1.1 rfl ?_
  intro p e s m args below meth c s₁ B hml hv
  obtain ⟨rfl, hbs, hK, hR⟩ := hv
  have hts0 := atoms_spec (ws := xe_Ws mj) B.pre
  have F : xe_F ov D cA old base p s m (as.map (xe_v (xe_ad base old))).toArray meth c mj := ⟨B.exec, B.bytes, hml, findClass_of_methodNamed B.named, fun w hw => hts0 w (List.mem_cons_of_mem _ hw), B.returns, B.notSynchronized, fun q => (name_of_methodNamed B.named B.method).1.trans q, hbs, hK⟩
  have hlen : (lg_sl (as.map (xe_v (xe_ad base old)))).length ≤ xe_mL mj := by
    rw [xe_lg_len, xe_cats]; exact hcat
  have hl := lv_entry (as.map (xe_v (xe_ad base old))) (n := xe_mL mj) hlen
  rw [lg_entry_eq]
  generalize (lg_sl (as.map (xe_v (xe_ad base old))) ++ List.replicate (xe_mL mj - (lg_sl (as.map (xe_v (xe_ad base old)))).length) Slot.unset).toArray = ls at hl ⊢
  rw [← xe_args_map] at hl
  have key := hw p e (xe_rm d (h'.length - h.length) (xe_sz h' - xe_sz h)) s m (as.map (xe_v (xe_ad base old))).toArray below meth c s.heap [] (MQ below (xe_Qc D cA old base r h') (as.map (xe_v (xe_ad base old))).toArray s (h'.length - h.length) (xe_sz h' - xe_sz h) (fun q => base ≤ q)) D cA old base ls h.length (xe_sz h) F hR hl (Nat.le_refl _) (Nat.le_refl _) (by show _ ≤ h.length + (h'.length - h.length); omega) (by show _ ≤ xe_sz h + (xe_sz h' - xe_sz h); omega) (Nat.le_refl _) (Nat.le_refl _) ?_
  · dsimp only at key
    rw [Nat.sub_self, Nat.sub_self] at key
    exact key
  · intro pc ls1 H1 locs1 hR1 hrt
    have post : ∀ (oc : Option Value), oc = r → ∀ t : State, t.heap = H1 → s.WarmedH t.vm → xe_Qc D cA old base r h' (as.map (xe_v (xe_ad base old))).toArray s (.returned (oc.map (xe_v (xe_ad base old)))) t := by
      intro oc ho t ht hW
      subst ho
      refine ⟨rfl, ?_⟩
      rw [ht]
      exact ⟨hR1.1, hR1.2.1, ⟨hR1.2.2.1.1, hR1.2.2.1.2.1, fun q hq => by cases hq⟩, hR1.2.2.2⟩
    have hlc : ∀ q ∈ locs1, (fun q => base ≤ q) q.base := hR1.2.2.1.2.2
    obtain ⟨hx, hb, -, -, -, hret, hlk, -⟩ := F
    cases r with
    | none =>
      obtain ⟨h1, h2⟩ := hrt
      exact W.vret hx hb (hret.trans h2) (post none rfl) hlc h1 hlk
    | some v =>
      cases v with
      | int v =>
        obtain ⟨h1, ty, h2, h3⟩ := hrt
        exact W.zret hx hb (hret.trans h2) h3 (post (some (.int v)) rfl) hlc h1 hlk
      | long v =>
        obtain ⟨h1, h2⟩ := hrt
        exact W.lret hx hb (hret.trans h2) (post (some (.long v)) rfl) hlc h1 hlk
      | ref a =>
        obtain ⟨h1, h2⟩ := hrt
        cases hm : xe_mR mj with
        | none => rw [hm] at h2; cases h2
        | some ty =>
          refine W.aret hx hb (hret.trans hm) ?_ (Or.inr ⟨_, rfl⟩) (post (some (.ref a)) rfl) hlc h1 hlk
          rw [hm] at h2
          cases ty with
          | object n => exact Or.inl ⟨n, rfl⟩
          | array t => exact Or.inr ⟨t, rfl⟩
          | _ => cases h2
      | _ => exact hrt.elim
theorem xe_ex_succ (J : xe_J) (ov : List (List Int32)) (n d mi : Nat) (S : xe_S) : xe_ex J ov (n + 1) d mi S = match xe_nx ov mi S with
      | some (.inl S') => xe_ex J ov n d mi S'
      | some (.inr (.inl r)) => some (r, S.2.2.2)
      | some (.inr (.inr (mj, as, rest))) => match d with
        | 0 => none
        | d' + 1 => match (match J d' mj as S.2.2.2 with
            | some q => some q
            | none => if (as.map fun v : Value => v.category).sum ≤ xe_mL mj then xe_ex J ov n d' mj (0, lv_args 0 as, [], S.2.2.2) else none) with
          | some (r, h') => xe_ex J ov n d mi (S.1 + 3, S.2.1, r.toList ++ rest, h')
          | none => none
      | none => none := rfl
theorem xe_loff_code (pc : Nat) : xe_code xe_loff pc = none := rfl
theorem xe_loff_none {J : xe_J} {ov : List (List Int32)} (n d : Nat) (S : xe_S) (y : Option Value × xe_H) : ¬ xe_ex J ov n d xe_loff S = some y := by
  cases n with
  | zero => intro h; cases h
  | succ n =>
    intro h
    rw [xe_ex_succ] at h
    have e : xe_nx ov xe_loff S = none := by unfold xe_nx; rw [xe_loff_code]
    rw [e] at h
    cases h
set_option maxHeartbeats 1000000 in
theorem xe_sound {J : xe_J} {ov : List (List Int32)} {l : Launch} (hJ : xe_Jok J ov l) : ∀ n, xe_Snd J ov l n := by
  intro n
  induction n with
  | zero => intro d mi S r h' hex; cases hex
  | succ n ih =>
    intro d mi S r h' hex
    rw [xe_ex_succ] at hex
    cases hnx : xe_nx ov mi S with
    | none => rw [hnx] at hex; cases hex
    | some y =>
    rw [hnx] at hex
    rcases y with S' | r1 | ⟨mj, as, st1⟩
    · dsimp only at hex
      obtain ⟨⟨g1, g2⟩, hw⟩ := ih d mi S' r h' hex
      have hm : S.2.2.2.length ≤ S'.2.2.2.length ∧ xe_sz S.2.2.2 ≤ xe_sz S'.2.2.2 := by
        have hnx2 := hnx
        unfold xe_nx at hnx2
        split at hnx2
        · exact xe_mono hnx2
        · cases hnx2
      refine ⟨⟨Nat.le_trans hm.1 g1, Nat.le_trans hm.2 g2⟩, ?_⟩
      intro p e R s m args below meth c H locs Q D cA old base ls n0 z0 F hR hl hn0 hz0 hc hs hfr hlo kr
      exact xe_step F hnx hR hl hn0 hz0 (Nat.le_trans g1 hc) (Nat.le_trans g2 hs) (by omega) (by omega) (fun H1 locs1 ls1 hR1 hl1 => hw p e R s m args below meth c H1 locs1 Q D cA old base ls1 n0 z0 F hR1 hl1 (Nat.le_trans hn0 hm.1) (Nat.le_trans hz0 hm.2) hc hs hfr hlo kr)
    · dsimp only at hex
      have e1 := Option.some.inj hex
      have e2 : r1 = r := congrArg Prod.fst e1
      have e3 : S.2.2.2 = h' := congrArg Prod.snd e1
      subst e2; subst e3
      refine ⟨⟨Nat.le_refl _, Nat.le_refl _⟩, ?_⟩
      intro p e R s m args below meth c H locs Q D cA old base ls n0 z0 F hR hl hn0 hz0 hc hs hfr hlo kr
      unfold xe_nx at hnx
      split at hnx
      · rename_i i ax hcode
        obtain ⟨q1, q2⟩ := xe_ret_of hnx (xe_ok hcode).1
        rw [q2]
        exact kr S.1 ls H locs hR q1
      · cases hnx
    · dsimp only at hex
      cases d with
      | zero => cases hex
      | succ d' =>
      dsimp only at hex
      have hq : ∃ r2 h2, (J d' mj as S.2.2.2 = some (r2, h2) ∨ ((as.map fun v : Value => v.category).sum ≤ xe_mL mj ∧ xe_ex J ov n d' mj (0, lv_args 0 as, [], S.2.2.2) = some (r2, h2))) ∧ xe_ex J ov n (d' + 1) mi (S.1 + 3, S.2.1, r2.toList ++ st1, h2) = some (r, h') := by
        cases hj : J d' mj as S.2.2.2 with
        | some q =>
          rw [hj] at hex
          obtain ⟨r2, h2⟩ := q
          exact ⟨r2, h2, Or.inl rfl, hex⟩
        | none =>
          rw [hj] at hex
          dsimp only at hex
          by_cases hcat : (as.map fun v : Value => v.category).sum ≤ xe_mL mj
          · rw [if_pos hcat] at hex
            cases hz : xe_ex J ov n d' mj (0, lv_args 0 as, [], S.2.2.2) with
            | none => rw [hz] at hex; cases hex
            | some q =>
              rw [hz] at hex
              obtain ⟨r2, h2⟩ := q
              exact ⟨r2, h2, Or.inr ⟨hcat, rfl⟩, hex⟩
          · rw [if_neg hcat] at hex
            cases hex
      obtain ⟨r2, h2, hcall, hrest⟩ := hq
      obtain ⟨⟨g1, g2⟩, hw⟩ := ih (d' + 1) mi _ r h' hrest
      dsimp only at g1 g2 hw
      have hm : S.2.2.2.length ≤ h2.length ∧ xe_sz S.2.2.2 ≤ xe_sz h2 := by
        rcases hcall with q | ⟨-, q⟩
        · exact (hJ d' mj as _ r2 h2 q).1
        · exact (ih d' mj _ r2 h2 q).1
      refine ⟨⟨Nat.le_trans hm.1 g1, Nat.le_trans hm.2 g2⟩, ?_⟩
      intro p e R s m args below meth c H locs Q D cA old base ls n0 z0 F hR hl hn0 hz0 hc hs hfr hlo kr
      have hrun : va_Run p l e R s m args below meth c H locs (S.2.2.2.length - n0) (xe_sz S.2.2.2 - z0) (h2.length - S.2.2.2.length) (xe_sz h2 - xe_sz S.2.2.2) (F0 m S.1 ls (S.2.2.1.map (xe_v (xe_ad base old)))) (st1.map (xe_v (xe_ad base old))) (xe_Qc D cA old base r2 h2 #[]) (fun q => base ≤ q) := by
        rcases hcall with q | ⟨hcat, q⟩
        · exact (hJ d' mj as _ r2 h2 q).2 p e R s m args below meth c H locs _ _ D cA old base mi ls S.1 S.2.1 S.2.2.1 st1 F hnx hR hl (by omega) (by omega) (by omega) (by omega)
        · rcases xe_callk hnx with hk | hk
          · exact xe_run F hnx hR hl hk (xe_met_of ih q hcat hk) (by omega) (by omega) ⟨by omega, by omega⟩
          · rw [hk] at q
            exact absurd q (xe_loff_none n d' _ _)
      refine xe_called hrun hR (fun H1 locs1 hR1 => ?_)
      have key := hw p e R s m args below meth c H1 locs1 Q D cA old base ls n0 z0 F hR1 hl (Nat.le_trans hn0 hm.1) (Nat.le_trans hz0 hm.2) hc hs hfr hlo kr
      refine W.widen (k := h2.length - n0) (n := xe_sz h2 - z0) (by omega) (by omega) ?_
      rw [List.map_append] at key
      have e5 : (r2.map (xe_v (xe_ad base old))).toList = r2.toList.map (xe_v (xe_ad base old)) := by cases r2 <;> rfl
      rw [e5]
      exact key
