/-! Calls and ends -/
def xe_isC : Instr → Bool
  | .invokestatic _ => true
  | .invokevirtual _ => true
  | .invokespecial _ => true
  | _ => false
set_option maxHeartbeats 2000000 in
theorem xe_nocall {ov : List (List Int32)} {mi : Nat} {i : Instr} {ax : List Nat} {pc : Nat} {lv : List (Nat × Value)} {st : List Value} {h : xe_H} {q : Nat × List Value × List Value} (hi : xe_isC i = false) : ¬ xe_i ov mi i ax pc lv st h = some (.inr (.inr q)) := by
  cases i <;> first
    | (cases hi; done)
    | (intro hn; cases hn; done)
    | (intro hn; simp only [xe_i, xe_ldI, xe_ldL, xe_p1, xe_p2, xe_pL, xe_pLL, xe_pLI, xe_pR, xe_pRI, xe_pA, xe_gi, xe_gl, xe_gw, xe_gq, xe_go, xe_on] at hn; (repeat' (split at hn)) <;> cases hn)
def xe_rm (d mc ms : Nat) : Room := { frames := d + 1, cells := mc, slots := ms, locals := (d + 1) * 40 }
def xe_Ws (mj : Nat) : List Jvm.Cond := .code (xe_mY mj) (xe_mB mj) (xe_mL mj) (xe_mR mj) :: xe_G
def xe_Pc (ov : List (List Int32)) (D : va_G) (cA : Nat → ClassId) (old : Nat → Nat) (base : Nat) (as : List Value) (h : xe_H) : Array Value → State → Prop := fun v U => v = (as.map (xe_v (xe_ad base old))).toArray ∧ base ≤ U.heap.size ∧ xe_Kn ov D cA old base U ∧ xe_Rl D cA old base U.heap h U.heap []
def xe_Qc (D : va_G) (cA : Nat → ClassId) (old : Nat → Nat) (base : Nat) (r : Option Value) (h : xe_H) : Array Value → State → Outcome → State → Prop := fun _ st oc t => oc = .returned (r.map (xe_v (xe_ad base old))) ∧ xe_Rl D cA old base st.heap h t.heap []
theorem xe_Kn.to {ov : List (List Int32)} {D : va_G} {cA : Nat → ClassId} {old : Nat → Nat} {base : Nat} {s U : State} (hK : xe_Kn ov D cA old base s) (hW : s.WarmedH U.vm) (hq : ∀ q : Nat, q < s.heap.size → ¬ base ≤ q → U.heap[q]? = s.heap[q]?) : xe_Kn ov D cA old base U := by
  obtain ⟨h1, h2, h3, h4, h5⟩ := hK
  refine ⟨va_K.moved hW.alike h1, fun w hw => ?_, fun C hC => va_AO.moved hW.alike (h3 C hC), fun j x hx => (va_T.moved hW.alike (h4 j x hx)).kept hq, fun z hz => (va_Z.moved hW.alike (h5 z hz)).kept hq⟩
  have h6 := h2 w hw
  have h7 := (List.mem_filter.mp hw).2
  cases w with
  | fieldLinkNest a b c d e f => exact va_Nw.warmF hW h6
  | methodLinkNest a b c d => exact va_Nw.warmM hW h6
  | _ => cases h7
theorem xe_Pc.blind {ov : List (List Int32)} {D : va_G} {cA : Nat → ClassId} {old : Nat → Nat} {base : Nat} {as : List Value} {h : xe_H} : FrameBlind (xe_Pc ov D cA old base as h) := by
  intro a U g mk q
  obtain ⟨q1, q2, q3, q4⟩ := q
  exact ⟨q1, q2, q3.to (State.WarmedH.refl U) (fun _ _ _ => rfl), q4⟩
theorem xe_Rl.start {D : va_G} {cA : Nat → ClassId} {old : Nat → Nat} {base : Nat} {H0 H : Heap} {h : xe_H} {locs : List Loc} (hR : xe_Rl D cA old base H0 h H locs) : xe_Rl D cA old base H h H [] :=
  ⟨hR.1, hR.2.1, va_S.rf, hR.2.2.2⟩
section XEC
variable {p : Program} {l : Launch} {e : Env} {R : Room} {s : State} {m : MethodId} {args : Array Value} {below : List Frame} {meth : Method} {c : Code} {H : Heap} {locs : List Loc} {cells slots : Nat} {Q : State → Prop}
variable {ov : List (List Int32)} {D : va_G} {cA : Nat → ClassId} {old : Nat → Nat} {base mi pc : Nat} {ls : Array Slot} {rest : List Value} {h h' : xe_H}
theorem xe_called {mc ms : Nat} {r : Option Value} {st0 : List Value} {a : Array Value} (hr : va_Run p l e R s m args below meth c H locs cells slots mc ms (F0 m pc ls st0) rest (xe_Qc D cA old base r h' a) (fun q => base ≤ q)) (hR : xe_Rl D cA old base s.heap h H locs)
    (kk : ∀ (H1 : Heap) (locs1 : List Loc), xe_Rl D cA old base s.heap h' H1 locs1 → W p l e R s m args below meth c H1 locs1 (cells + mc) (slots + ms) Q (F0 m (pc + 3) ls ((r.map (xe_v (xe_ad base old))).toList ++ rest))) : W p l e R s m args below meth c H locs cells slots Q (F0 m pc ls st0) := by
  intro T hT X
  obtain ⟨v, st₀, t, T', L, h0, X', hL, e1, e2, ⟨hv, q1, q2, q3, q4⟩, st⟩ := hr T hT X
  have hv : v = r.map (xe_v (xe_ad base old)) := Outcome.returned.inj hv
  subst hv
  rw [h0] at q3
  rw [← e1] at q1 q3 q4
  have hlc : ∀ x ∈ locs ++ L, base ≤ x.base := fun x hx => by
    rcases List.mem_append.mp hx with h1 | h1
    · exact hR.2.2.1.2.2 x h1
    · exact hL x h1
  obtain ⟨t2, a1, b1⟩ := kk T'.heap (locs ++ L) ⟨q1, q2, ⟨Nat.le_trans hR.2.2.1.1 q3.1, fun q h1 h2 => (q3.2.1 q (Nat.lt_of_lt_of_le h1 hR.2.2.1.1) h2).trans (hR.2.2.1.2.1 q h1 h2), hlc⟩, q4⟩ T' rfl X'
  exact ⟨t2, st t2 a1, b1⟩
theorem xe_pre (F : xe_F ov D cA old base p s m args meth c mi) (hR : xe_Rl D cA old base s.heap h H locs) (as : List Value) : PreS s H (xe_Pc ov D cA old base as h) (as.map (xe_v (xe_ad base old))) := by
  obtain ⟨-, -, -, -, -, -, -, -, hbs, hK⟩ := F
  refine ⟨xe_Pc.blind, fun U hU hW => ⟨rfl, ?_, hK.to hW ?_, ?_⟩⟩
  · rw [hU]; exact Nat.le_trans hbs hR.2.2.1.1
  · intro q h1 h2
    rw [hU]
    exact hR.2.2.1.2.1 q h1 h2
  · rw [hU]; exact hR.start
theorem xe_good {mj : Nat} (hc : Jvm.Cond.code (xe_mY mj) (xe_mB mj) (xe_mL mj) (xe_mR mj) ∈ xe_G) : GoodIn xe_G (xe_Ws mj) := by
  intro w hw
  have h1 : w ∈ xe_G := by
    rcases List.mem_cons.mp hw with q | q
    · rw [q]; exact hc
    · exact q
  exact ⟨h1, good_of_word (List.mem_filter.mp h1).2⟩
theorem xe_take (f : Value → Value) {st : List Value} {n : Nat} : st.map f = (((st.take n).reverse).map f).reverse ++ (st.drop n).map f := by
  rw [List.map_reverse, List.reverse_reverse, ← List.map_append, List.take_append_drop]
set_option maxHeartbeats 1000000 in
theorem xe_run (F : xe_F ov D cA old base p s m args meth c mi) {S : xe_S} {mj : Nat} {as st1 : List Value} (hn : xe_nx ov mi S = some (.inr (.inr (mj, as, st1)))) (hR : xe_Rl D cA old base s.heap S.2.2.2 H locs) (hl : lv_has ls (xe_mL mi) (S.2.1.map (xe_q (xe_ad base old)))) {d mc ms : Nat} {r : Option Value} (hk : (xe_mk mj).headD 9 ≠ 9) (hM : Met l (xe_mY mj) (xe_Ws mj) (xe_rm d mc ms) (xe_Pc ov D cA old base as S.2.2.2) (xe_Qc D cA old base r h') mc ms (fun q => base ≤ q))
    (hfr : d + 2 ≤ R.frames) (hlo : (d + 2) * 40 ≤ R.locals) (hf : cells + mc ≤ R.cells ∧ slots + ms ≤ R.slots) :
    va_Run p l e R s m args below meth c H locs cells slots mc ms (F0 m S.1 ls (S.2.2.1.map (xe_v (xe_ad base old)))) (st1.map (xe_v (xe_ad base old))) (xe_Qc D cA old base r h' #[]) (fun q => base ≤ q) := by
  obtain ⟨pc, lv, st, h⟩ := S
  unfold xe_nx at hn
  dsimp only at hn hR hl hM ⊢
  have F' := F
  obtain ⟨hx, hb, hml, hown, hts, -, -, -, -, hK⟩ := F'
  cases hcode : xe_code mi pc with
  | none => rw [hcode] at hn; cases hn
  | some q =>
  obtain ⟨i, ax⟩ := q
  rw [hcode] at hn
  dsimp only at hn
  obtain ⟨hd, hw⟩ := xe_ok hcode
  have hL : xe_mL mj ≤ 20 := xe_mL_le mj
  have fix : CallFix p m c (xe_mB mi) (xe_mL mi) s args xe_G (xe_mY mi).cls := ⟨hx, hb, hml, hown, hts⟩
  have hfr' : (xe_rm d mc ms).frames + 1 ≤ R.frames ∧ 8 + (xe_mL mj + 11) + (xe_rm d mc ms).locals ≤ R.locals := ⟨hfr, by show 8 + (xe_mL mj + 11) + (d + 1) * 40 ≤ _; omega⟩
  cases i with
  | invokestatic idx =>
    obtain ⟨⟨h1, h2⟩, hn2⟩ := xe_if_inv hn
    have e1 := Sum.inr.inj (Sum.inr.inj (Option.some.inj hn2))
    have e2 : ax.headD 0 = mj := congrArg Prod.fst e1
    have e3 : (st.take (ax.getD 1 0)).reverse = as := congrArg (fun q => q.2.1) e1
    have e4 : st.drop (ax.getD 1 0) = st1 := congrArg (fun q => q.2.2) e1
    subst e2; subst e3; subst e4
    dsimp only [xe_wd] at hw
    rw [Bool.and_eq_true, Bool.or_eq_true, Bool.and_eq_true, beq_iff_eq, beq_iff_eq, beq_iff_eq] at hw
    obtain ⟨w1, w23⟩ := hw
    rcases w23 with w23 | ⟨w2, w3⟩
    · rw [w23] at hk
      exact absurd (by decide +kernel) hk
    obtain ⟨m1, m2, m3, m4, m5, m6, m7, m8, m9⟩ := xe_mok (mj := ax.headD 0) (by rw [w2]; decide)
    have hlen : ((st.take (ax.getD 1 0)).reverse.map (xe_v (xe_ad base old))).length = (xe_mk (ax.headD 0)).getD 1 0 := by rw [w3, List.length_map, List.length_reverse, List.length_take]; omega
    rcases xe_ml_of w1 with k1 | ⟨host, k1⟩
    · exact va_runS (As := (st.take (ax.getD 1 0)).reverse.map (xe_v (xe_ad base old))) fix hM ⟨callB_of _ hts (xe_good m1) rfl rfl rfl (hts _ m2) (hts _ k1) ⟨m4, m5, m6⟩ hfr', hts _ (m7 w2)⟩ (xe_pre F hR _) rfl hlen hl.1 (xe_take _) (lv_room (by rw [xe_cats]; exact h2)) (xe_dec_of hd rfl) hf
    · exact va_runSN (As := (st.take (ax.getD 1 0)).reverse.map (xe_v (xe_ad base old))) fix hM ⟨va_cnB _ hts (xe_good m1) rfl rfl rfl (hK.2.1 _ k1) (hts _ m2) ⟨m4, m5, m6⟩ hfr', hts _ (m7 w2), trivial⟩ (xe_pre F hR _) rfl hlen hl.1 (xe_take _) (lv_room (by rw [xe_cats]; exact h2)) (xe_dec_of hd rfl) hf
  | invokevirtual idx =>
    obtain ⟨b, r1, h1, hn2⟩ := xe_pR_inv hn
    obtain ⟨fs, hn3, h2⟩ := xe_go_inv hn2
    obtain ⟨h3, hn4⟩ := xe_if_inv hn3
    have e1 := Sum.inr.inj (Sum.inr.inj (Option.some.inj hn4))
    have e2 : ax.headD 0 = mj := congrArg Prod.fst e1
    have e3 : Value.ref b :: (st.take (ax.getD 1 0)).reverse = as := congrArg (fun q => q.2.1) e1
    have e4 : r1 = st1 := congrArg (fun q => q.2.2) e1
    subst e2; subst e3; subst e4
    dsimp only [xe_wd] at hw
    rw [Bool.and_eq_true, Bool.and_eq_true, Bool.and_eq_true, beq_iff_eq, beq_iff_eq, beq_iff_eq] at hw
    obtain ⟨⟨⟨w1, w2⟩, w3⟩, w4⟩ := hw
    obtain ⟨m1, m2, m3, m4, m5, m6, m7, m8, m9⟩ := xe_mok (mj := ax.headD 0) (by rw [w2]; decide)
    obtain ⟨v1, v2⟩ := m8 w2
    have hle : ax.getD 1 0 ≤ st.length := by
      by_cases q : ax.getD 1 0 ≤ st.length
      · exact q
      · rw [List.drop_eq_nil_of_le (by omega)] at h1
        cases h1
    have hlen : ((st.take (ax.getD 1 0)).reverse.map (xe_v (xe_ad base old))).length = (xe_mk (ax.headD 0)).getD 1 0 := by rw [w3, List.length_map, List.length_reverse, List.length_take]; omega
    have hst : st.map (xe_v (xe_ad base old)) = ((st.take (ax.getD 1 0)).reverse.map (xe_v (xe_ad base old))).reverse ++ Value.ref (xe_ad base old b) :: r1.map (xe_v (xe_ad base old)) := by
      rw [xe_take (xe_v (xe_ad base old)) (n := ax.getD 1 0), h1]; rfl
    rw [w4] at v2
    cases hq : xe_cls[ax.getD 3 0]? with
    | none => rw [hq] at v2; cases v2
    | some q =>
    rw [hq] at v2
    have v3 : q.1 = (xe_mY (ax.headD 0)).cls := Option.some.inj v2
    obtain ⟨hbo, hat⟩ := hR.obj h2 hq
    have hrecv := va_recv hK.1 (xe_one hat) hq (q0 := 0) rfl
    rw [v3] at hrecv
    have hrc : ∃ cell : Cell, H[xe_ad base old b]? = some cell ∧ cell.vm.isStatics = false ∧ s.vm.findClass (xe_mY (ax.headD 0)).cls = some cell.cls := by rw [xe_ad_lt hbo]; exact hrecv
    rcases xe_ml_of w1 with k1 | ⟨host, k1⟩
    · exact va_runV (As := (st.take (ax.getD 1 0)).reverse.map (xe_v (xe_ad base old))) fix hM ⟨callB_of _ hts (xe_good m1) rfl rfl rfl (hts _ m2) (hts _ k1) ⟨m4, m5, m6⟩ hfr', hts _ (m9 (by rw [w2]; decide)), hts _ v1⟩ ⟨xe_Pc.blind, hrc, (xe_pre F hR _).2⟩ rfl hlen hl.1 hst (lv_room (by rw [xe_cats]; exact h3)) (xe_dec_of hd rfl) hf
    · exact va_runVN (As := (st.take (ax.getD 1 0)).reverse.map (xe_v (xe_ad base old))) fix hM ⟨va_cnB _ hts (xe_good m1) rfl rfl rfl (hK.2.1 _ k1) (hts _ m2) ⟨m4, m5, m6⟩ hfr', hts _ (m9 (by rw [w2]; decide)), hts _ v1⟩ ⟨xe_Pc.blind, hrc, (xe_pre F hR _).2⟩ rfl hlen hl.1 hst (lv_room (by rw [xe_cats]; exact h3)) (xe_dec_of hd rfl) hf
  | invokespecial idx =>
    obtain ⟨b, r1, h1, hn2⟩ := xe_pR_inv hn
    obtain ⟨h3, hn3⟩ := xe_if_inv hn2
    by_cases q : ax.headD 0 = 0
    · rw [if_pos q] at hn3
      cases hn3
    · rw [if_neg q] at hn3
      have e1 := Sum.inr.inj (Sum.inr.inj (Option.some.inj hn3))
      have e2 : ax.headD 0 = mj := congrArg Prod.fst e1
      have e3 : Value.ref b :: (st.take (ax.getD 1 0)).reverse = as := congrArg (fun q => q.2.1) e1
      have e4 : r1 = st1 := congrArg (fun q => q.2.2) e1
      subst e2; subst e3; subst e4
      dsimp only [xe_wd] at hw
      rw [if_neg q, Bool.and_eq_true, Bool.and_eq_true, beq_iff_eq, beq_iff_eq] at hw
      obtain ⟨⟨w1, w2⟩, w3⟩ := hw
      obtain ⟨m1, m2, m3, m4, m5, m6, m7, m8, m9⟩ := xe_mok (mj := ax.headD 0) (by rw [w2]; decide)
      obtain ⟨n1, n2⟩ := m3.2 w2
      have hle : ax.getD 1 0 ≤ st.length := by
        by_cases q : ax.getD 1 0 ≤ st.length
        · exact q
        · rw [List.drop_eq_nil_of_le (by omega)] at h1
          cases h1
      have hlen : ((st.take (ax.getD 1 0)).reverse.map (xe_v (xe_ad base old))).length = (xe_mk (ax.headD 0)).getD 1 0 := by rw [w3, List.length_map, List.length_reverse, List.length_take]; omega
      have hst : st.map (xe_v (xe_ad base old)) = ((st.take (ax.getD 1 0)).reverse.map (xe_v (xe_ad base old))).reverse ++ Value.ref (xe_ad base old b) :: r1.map (xe_v (xe_ad base old)) := by
        rw [xe_take (xe_v (xe_ad base old)) (n := ax.getD 1 0), h1]; rfl
      have hW : xe_Ws (ax.headD 0) = Jvm.Cond.code (xe_mY (ax.headD 0)) (xe_mB (ax.headD 0)) (xe_mL (ax.headD 0)) none :: xe_G := by rw [xe_Ws, n2]
      rcases xe_ml_of w1 with k1 | ⟨host, k1⟩
      · exact va_runI (As := (st.take (ax.getD 1 0)).reverse.map (xe_v (xe_ad base old))) fix hM ⟨callB_of _ hts (xe_good m1) hW rfl rfl (hts _ m2) (hts _ k1) ⟨m4, m5, m6⟩ hfr', n1, hts _ (m9 (by rw [w2]; decide))⟩ (xe_pre F hR (.ref b :: (st.take (ax.getD 1 0)).reverse)) rfl hlen hl.1 hst (lv_room (by rw [xe_cats]; exact h3)) (xe_dec_of hd rfl) hf
      · exact va_runIN (As := (st.take (ax.getD 1 0)).reverse.map (xe_v (xe_ad base old))) fix hM ⟨va_cnB _ hts (xe_good m1) hW rfl rfl (hK.2.1 _ k1) (hts _ m2) ⟨m4, m5, m6⟩ hfr', n1, hts _ (m9 (by rw [w2]; decide))⟩ (xe_pre F hR (.ref b :: (st.take (ax.getD 1 0)).reverse)) rfl hlen hl.1 hst (lv_room (by rw [xe_cats]; exact h3)) (xe_dec_of hd rfl) hf
  | _ => exact absurd hn (xe_nocall rfl)
end XEC
