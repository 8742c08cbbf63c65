/-! The answers of the law's own 'off' on the fresh objects -/
def xo_P (ov : List (List Int32)) (v : Int32) (h : xe_H) (q : Option Value × xe_H) : Prop :=
  h.length < xe_o ∧ (∃ fs : List Value, h[0]? = some (.inr (0, fs)) ∧ fs[2]? = some (.ref 66)) ∧ (∃ fs : List Value, h[66]? = some (.inr (3, fs))) ∧
  ((v.toInt = 0 ∧ ∃ (n : Nat) (h1 : xe_H) (x : Int64), xe_ex xe_J0 ov n 98 194 (0, lv_args 0 [.ref 0, .int v], [], h) = some (some (.long 0), h1) ∧ h1[167]? = some (.inl (1, .inr (.inl [x]))) ∧ (∀ k, 115 ≤ k → h1[k]? = h[k]?) ∧ h1.length = h.length ∧ xe_sz h1 = xe_sz h ∧ q = (some (.int 0), h1.set 167 (.inl (1, .inr (.inl [0]))))) ∨
   (v.toInt ≠ 0 ∧ ∃ n : Nat, xe_ex xe_J0 ov n 97 139 (0, lv_args 0 [.ref 66, .int v], [], h) = some (some (.int 0), h) ∧ q = (some (.int 1), h ++ [xo_e])))
def xo_C (ov : List (List Int32)) (d mj : Nat) (as : List Value) (h : xe_H) (q : Option Value × xe_H) : Prop := d = 99 ∧ mj = xe_loff ∧ ∃ v : Int32, as = [.ref 0, .int v, .ref 167] ∧ xo_P ov v h q
noncomputable def xo_J (ov : List (List Int32)) : xe_J := fun d mj as h => @dite _ (∃ q, xo_C ov d mj as h q) (Classical.propDecidable _) (fun hq => some (Classical.choose hq)) (fun _ => none)
theorem xo_J_spec {ov : List (List Int32)} {d mj : Nat} {as : List Value} {h : xe_H} {q : Option Value × xe_H} (hj : xo_J ov d mj as h = some q) : xo_C ov d mj as h q := by
  unfold xo_J at hj
  by_cases hq : ∃ q, xo_C ov d mj as h q
  · rw [dif_pos hq] at hj
    have h1 := Classical.choose_spec hq
    rw [Option.some.inj hj] at h1
    exact h1
  · rw [dif_neg hq] at hj
    cases hj
theorem xo_J_some {ov : List (List Int32)} {d mj : Nat} {as : List Value} {h : xe_H} {q : Option Value × xe_H} (hc : xo_C ov d mj as h q) : ∃ q', xo_J ov d mj as h = some q' ∧ xo_C ov d mj as h q' := by
  have hq : ∃ q, xo_C ov d mj as h q := ⟨q, hc⟩
  exact ⟨Classical.choose hq, by unfold xo_J; rw [dif_pos hq], Classical.choose_spec hq⟩
theorem xo_J_none {ov : List (List Int32)} {d mj : Nat} {as : List Value} {h : xe_H} (hn : d ≠ 99 ∨ mj ≠ xe_loff) : xo_J ov d mj as h = none := by
  have hq : ¬ ∃ q, xo_C ov d mj as h q := fun ⟨q, h1, h2, _⟩ => hn.elim (fun k => k h1) (fun k => k h2)
  unfold xo_J
  rw [dif_neg hq]
theorem xo_j0 {ov : List (List Int32)} {h0 : xe_H} (F : xf_fr h0) (hn : h0.length < xe_o) : ∃ h' : xe_H, xo_J ov 99 195 [.ref 0, .int 0, .ref 167] h0 = some (some (.int 0), h') ∧ (∀ (k : Nat) (x : xe_E), 115 ≤ k → k ≠ 167 → hL[k]? = some x → h'[k]? = some x) ∧ h'[167]? = some (.inl (1, .inr (.inl [0]))) ∧ h'.length = h0.length ∧ xe_sz h' = xe_sz h0 := by
  obtain ⟨n, r, h1, hex, hr, k1, k2, k3⟩ := xo_r194 (ov := ov) (d := 90) F (Q := fun r h1 => r = some (.long 0) ∧ (∀ k, 115 ≤ k → h1[k]? = h0[k]?) ∧ h1.length = h0.length ∧ xe_sz h1 = xe_sz h0) (fun h1 a b c => ⟨rfl, a, b, c⟩)
  subst hr
  have e167 : h1[167]? = some (.inl (1, .inr (.inl [0]))) := (k1 167 (by decide)).trans (F 167 _ hl_167)
  obtain ⟨q', hj, -, -, v, hv, -, -, -, hp⟩ := xo_J_some (ov := ov) (d := 99) (mj := 195) (as := [.ref 0, .int 0, .ref 167]) (h := h0) (q := (some (.int 0), h1.set 167 (.inl (1, .inr (.inl [0]))))) ⟨rfl, rfl, 0, rfl, hn, ⟨_, F 0 _ hl_0, rfl⟩, ⟨_, F 66 _ hl_66⟩, Or.inl ⟨by decide, n, h1, 0, hex, e167, k1, k2, k3, rfl⟩⟩
  cases hv
  rcases hp with ⟨-, n', h2, x', hex', e', a', b', c', hq⟩ | ⟨hne, -⟩
  · subst hq
    refine ⟨_, hj, fun k x hk hne hx => ?_, List.getElem?_set_self ?_, by rw [List.length_set]; exact b', (show xe_sz (h2.set 167 (.inl (1, .inr (.inl [0])))) = xe_sz h2 from xe_sz_set e' rfl).trans c'⟩
    · rw [List.getElem?_set_ne (Ne.symm hne)]
      exact (a' k hk).trans (F k x hx)
    · exact (List.getElem?_eq_some_iff.mp e').1
  · exact absurd (by decide) hne
theorem xo_j1 {ov : List (List Int32)} {h0 : xe_H} (F : xf_fr h0) (hn : h0.length < xe_o) (v : Int32) (hv : v.toInt ≠ 0) : ∃ h' : xe_H, xo_J ov 99 195 [.ref 0, .int v, .ref 167] h0 = some (some (.int 1), h') ∧ (∀ (k : Nat) (x : xe_E), 115 ≤ k → k ≠ 167 → hL[k]? = some x → h'[k]? = some x) ∧ h'.length = h0.length + 1 ∧ xe_sz h' = xe_sz h0 + 6 := by
  obtain ⟨n, r, h1, hex, hr, hh⟩ := xo_r139 (ov := ov) (d := 94) F hv (Q := fun r h1 => r = some (.int 0) ∧ h1 = h0) ⟨rfl, rfl⟩
  subst hr
  rw [hh] at hex
  obtain ⟨q', hj, -, -, v', hv', -, -, -, hp⟩ := xo_J_some (ov := ov) (d := 99) (mj := 195) (as := [.ref 0, .int v, .ref 167]) (h := h0) (q := (some (.int 1), h0 ++ [xo_e])) ⟨rfl, rfl, v, rfl, hn, ⟨_, F 0 _ hl_0, rfl⟩, ⟨_, F 66 _ hl_66⟩, Or.inr ⟨hv, n, hex, rfl⟩⟩
  cases hv'
  rcases hp with ⟨hz, -⟩ | ⟨-, n', -, hq⟩
  · exact absurd hz hv
  · subst hq
    refine ⟨_, hj, fun k x hk _ hx => ?_, by rw [List.length_append]; rfl, xe_sz_push _ _⟩
    have h2 := F k x hx
    rw [List.getElem?_append_left (List.getElem?_eq_some_iff.mp h2).1]
    exact h2
set_option maxHeartbeats 1000000 in
theorem xo_Jok {p : Program} {l : Launch} {e : Env} {R : Room} {s : State} {m : MethodId} {args : Array Value} {below : List Frame} {meth : Method} {c : Code} {ov : List (List Int32)} {D : va_G} {cA : Nat → ClassId} {old : Nat → Nat} {base : Nat} (htr : l.stackTraces = false) (F : xe_F ov D cA old base p s m args meth c 196) (hX : xo_K base s) :
    ∀ (mj : Nat) (as : List Value) (h : xe_H) (r : Option Value) (h' : xe_H), xo_J ov 99 mj as h = some (r, h') → (h.length ≤ h'.length ∧ xe_sz h ≤ xe_sz h') ∧ ∀ (H : Heap) (locs : List Loc) (cells slots : Nat) (ls : Array Slot) (pc : Nat) (lv : List (Nat × Value)) (st st1 : List Value), xe_nx ov 196 (pc, lv, st, h) = some (.inr (.inr (mj, as, st1))) → xe_Rl D cA old base s.heap h H locs → lv_has ls (xe_mL 196) (lv.map (xe_q (xe_ad base old))) → 99 + 2 ≤ R.frames → (99 + 2) * 40 ≤ R.locals → cells + (h'.length - h.length) ≤ R.cells → slots + (xe_sz h' - xe_sz h) ≤ R.slots →
      va_Run p l e R s m args below meth c H locs cells slots (h'.length - h.length) (xe_sz h' - xe_sz h) (F0 m pc ls (st.map (xe_v (xe_ad base old)))) (st1.map (xe_v (xe_ad base old))) (xe_Qc D cA old base r h' #[]) (fun q => base ≤ q) := by
  intro mj as h r h' hj
  obtain ⟨-, hmj, v, has, hlt, ⟨fs, h0, h2⟩, ⟨fs6, h66⟩, hp⟩ := xo_J_spec hj
  subst hmj; subst has
  rcases hp with ⟨-, n, h1, x, hex, e167, k1, k2, k3, hq⟩ | ⟨hne, n, hex, hq⟩
  · have q1 : r = some (.int 0) := congrArg Prod.fst hq
    have q2 : h' = h1.set 167 (.inl (1, .inr (.inl [0]))) := congrArg Prod.snd hq
    subst q1; subst q2
    have e2 : xe_sz (h1.set 167 (.inl (1, .inr (.inl [0])))) = xe_sz h1 := xe_sz_set e167 rfl
    have hM := xo_met195n (l := l) (D := D) (cA := cA) (old := old) (base := base) (d := 97) (o := 167) h0 hex e167
    refine ⟨⟨by rw [List.length_set, k2]; exact Nat.le_refl _, by rw [e2, k3]; exact Nat.le_refl _⟩, ?_⟩
    intro H locs cells slots ls pc lv st st1 hn hR hl hfr hlo hc hs
    rw [List.length_set] at hc ⊢
    rw [e2] at hs ⊢
    exact xo_call F hX hn hR hl hM hfr hlo ⟨hc, hs⟩
  · have q1 : r = some (.int 1) := congrArg Prod.fst hq
    have q2 : h' = h ++ [xo_e] := congrArg Prod.snd hq
    subst q1; subst q2
    have e1 : (h ++ [xo_e]).length - h.length = 1 := by rw [List.length_append]; show h.length + 1 - h.length = 1; omega
    have e3 : xe_sz (h ++ [xo_e]) = xe_sz h + 6 := xe_sz_push _ _
    have e2 : xe_sz (h ++ [xo_e]) - xe_sz h = 6 := by rw [e3]; omega
    have hM := xo_met195x (l := l) htr (D := D) (cA := cA) (old := old) (base := base) (d := 97) (o := 167) (by decide) hlt h0 h2 h66 hex
    refine ⟨⟨by rw [List.length_append]; exact Nat.le_add_right _ _, by rw [e3]; exact Nat.le_add_right _ _⟩, ?_⟩
    intro H locs cells slots ls pc lv st st1 hn hR hl hfr hlo hc hs
    rw [e1] at hc ⊢
    rw [e2] at hs ⊢
    exact xo_call F hX hn hR hl hM hfr hlo ⟨hc, hs⟩
