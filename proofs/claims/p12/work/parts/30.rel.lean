/-! The pure machine's cells and the heap's -/
def xe_ad (base : Nat) (old : Nat → Nat) (k : Nat) : Nat := if k < xe_o then base + k else old (k - xe_o)
def xe_v (ad : Nat → Nat) : Value → Value
  | .ref k => .ref (ad k)
  | v => v
def xe_q (ad : Nat → Nat) (q : Nat × Value) : Nat × Value := (q.1, xe_v ad q.2)
def xe_a (ad : Nat → Nat) : xe_A → vp_A
  | .inl l => (l.length, .inl (fun i => l.getD i 0))
  | .inr (.inl l) => (l.length, .inr (.inl (fun i => l.getD i 0)))
  | .inr (.inr l) => (l.length, .inr (.inr (.inr (.inr (fun i => (l.getD i none).map ad)))))
def xe_e (ad : Nat → Nat) (cA : Nat → ClassId) : xe_E → va_E
  | .inl (t, a) => .inl (cA t, xe_a ad a)
  | .inr (ci, fs) => .inr (ci, fs.map (xe_v ad))
/-- a cell of which nothing is said -/
def xe_op : xe_E → Bool
  | .inr (ci, _) => decide (xe_cls.length ≤ ci)
  | .inl _ => false
def xe_tys (cA : Nat → ClassId) : List (ClassId × FieldType) := xe_ty.zipIdx.map (fun q => (cA q.2, q.1))
theorem xe_tys_at {cA : Nat → ClassId} {t : Nat} {ty : FieldType} (h : xe_ty[t]? = some ty) : (xe_tys cA)[t]? = some (cA t, ty) := by
  simp [xe_tys, List.getElem?_map, List.getElem?_zipIdx, h]
theorem xe_v_cat (ad : Nat → Nat) (v : Value) : (xe_v ad v).category = v.category := by cases v <;> rfl
theorem xe_cats (ad : Nat → Nat) (st : List Value) : ((st.map (xe_v ad)).map fun v => v.category).sum = (st.map fun v => v.category).sum := by
  rw [List.map_map]
  congr 1
  exact List.map_congr_left (fun v _ => xe_v_cat ad v)
theorem xe_st1_map (ad : Nat → Nat) (lv : List (Nat × Value)) (i : Nat) (v : Value) : (i, xe_v ad v) :: (lv.map (xe_q ad)).filter (fun q => !(q.1 == i) && !(q.1 + 1 == i && q.2.category == 2)) = (xe_st1 lv i v).map (xe_q ad) := by
  simp only [xe_st1, List.map_cons, List.filter_map]
  congr 3
  funext q
  simp [Function.comp, xe_q, xe_v_cat]
theorem xe_st2_map (ad : Nat → Nat) (lv : List (Nat × Value)) (i : Nat) (v : Value) : (i, xe_v ad v) :: (lv.map (xe_q ad)).filter (fun q => !(q.1 == i) && (!(q.1 == i + 1) && !(q.1 + 1 == i && q.2.category == 2))) = (xe_st2 lv i v).map (xe_q ad) := by
  simp only [xe_st2, List.map_cons, List.filter_map]
  congr 3
  funext q
  simp [Function.comp, xe_q, xe_v_cat]
theorem xe_ld_mem {lv : List (Nat × Value)} {i : Nat} {v : Value} (h : xe_ld lv i = some v) : (i, v) ∈ lv := by
  unfold xe_ld at h
  cases hf : lv.find? (fun q => q.1 == i) with
  | none => rw [hf] at h; cases h
  | some q =>
    rw [hf] at h
    have h1 := List.find?_some hf
    have h2 := List.mem_of_find?_eq_some hf
    obtain ⟨a, b⟩ := q
    simp at h h1
    subst h; subst h1
    exact h2
theorem xe_rd {ad : Nat → Nat} {ls : Array Slot} {n : Nat} {lv : List (Nat × Value)} (hl : lv_has ls n (lv.map (xe_q ad))) {i : Nat} {v : Value} (h : xe_ld lv i = some v) : ls[i]? = some (.val (xe_v ad v)) :=
  hl.2.2 (xe_q ad (i, v)) (List.mem_map_of_mem (xe_ld_mem h))
theorem xe_args_map (ad : Nat → Nat) : ∀ (vs : List Value) (i : Nat), (lv_args i vs).map (xe_q ad) = lv_args i (vs.map (xe_v ad))
  | [], _ => rfl
  | v :: vs, i => by
    simp only [lv_args, List.map_cons, xe_v_cat, xe_args_map ad vs]
    rfl
theorem xe_ad_lt {base : Nat} {old : Nat → Nat} {k : Nat} (h : k < xe_o) : xe_ad base old k = base + k := by simp [xe_ad, h]
theorem xe_ad_ge {base : Nat} {old : Nat → Nat} {k : Nat} (h : ¬ k < xe_o) : xe_ad base old k = old (k - xe_o) := by simp [xe_ad, h]
theorem xe_fits (ad : Nat → Nat) (ty : FieldType) (v : Value) : fits ty (xe_v ad v) = fits ty v := by cases v <;> cases ty <;> rfl
theorem xe_narrow {ad : Nat → Nat} {ty : FieldType} {v : Value} (h : narrow ty v = v) : narrow ty (xe_v ad v) = xe_v ad v := by
  cases v with
  | ref k => cases ty <;> rfl
  | _ => exact h
/-- the arrays that are there from the start, and the statics that hold them; links of nest mates; array classes -/
def xe_Kn (ov : List (List Int32)) (D : va_G) (cA : Nat → ClassId) (old : Nat → Nat) (base : Nat) (U : State) : Prop :=
  va_K D xe_cls (xe_tys cA) U ∧ (∀ w ∈ xe_nw, va_Nw w U) ∧ (∀ C ∈ xe_ov, va_AO C U) ∧ (∀ (j : Nat) (x : List Int32), ov[j]? = some x → va_T .int (old j) x.length (fun i => .int (x.getD i 0)) (fun q => base ≤ q) U U.heap) ∧ (∀ z ∈ xe_zs, va_Z z.1 z.2.1 z.2.2.1 (.ref (old z.2.2.2)) (fun q => base ≤ q) U U.heap)
/-- the heap holds the cells, from base on; nothing below base has changed since the method began -/
def xe_Rl (D : va_G) (cA : Nat → ClassId) (old : Nat → Nat) (base : Nat) (H0 : Heap) (h : xe_H) (H : Heap) (locs : List Loc) : Prop :=
  H.size = base + h.length ∧ h.length ≤ xe_o ∧ va_S (fun q => base ≤ q) H0 H locs ∧ ∀ (k : Nat) (x : xe_E), h[k]? = some x → xe_op x = true ∨ va_at D xe_cls (base + k, xe_e (xe_ad base old) cA x) H
theorem xe_Rl.put {D : va_G} {cA : Nat → ClassId} {old : Nat → Nat} {base : Nat} {H0 H H1 : Heap} {h : xe_H} {locs : List Loc} {a k : Nat} {x : xe_E} (hR : xe_Rl D cA old base H0 h H locs) (hx : va_at D xe_cls (base + a, xe_e (xe_ad base old) cA x) H1) (z : H1.size = H.size) (oq : ∀ q : Nat, q ≠ base + a → H1[q]? = H[q]?) : xe_Rl D cA old base H0 (h.set a x) H1 (locs ++ [⟨base + a, k⟩]) := by
  obtain ⟨r1, r2, r3, r4⟩ := hR
  refine ⟨by rw [z, List.length_set]; exact r1, by rw [List.length_set]; exact r2, r3.put z oq (Nat.le_add_right _ _), fun j y hy => ?_⟩
  by_cases hj : a = j
  · subst hj
    have hl : a < h.length := by
      have := (List.getElem?_eq_some_iff.mp hy).1
      rwa [List.length_set] at this
    rw [List.getElem?_set_self hl] at hy
    cases hy
    exact Or.inr hx
  · rw [List.getElem?_set_ne hj] at hy
    rcases r4 j y hy with q | q
    · exact Or.inl q
    · exact Or.inr (q.kept (oq _ (by omega)))
theorem xe_Rl.push {D : va_G} {cA : Nat → ClassId} {old : Nat → Nat} {base : Nat} {H0 H H1 : Heap} {h : xe_H} {locs : List Loc} {x : xe_E} (hR : xe_Rl D cA old base H0 h H locs) (hl : h.length < xe_o) (hx : va_at D xe_cls (base + h.length, xe_e (xe_ad base old) cA x) H1) (z : H1.size = H.size + 1) (oq : ∀ q : Nat, q < H.size → H1[q]? = H[q]?) : xe_Rl D cA old base H0 (h ++ [x]) H1 locs := by
  obtain ⟨r1, r2, r3, r4⟩ := hR
  refine ⟨by rw [z, List.length_append, r1]; rfl, by rw [List.length_append]; exact hl, ⟨Nat.le_trans r3.1 (by omega), fun q h1 h2 => (oq q (Nat.lt_of_lt_of_le h1 r3.1)).trans (r3.2.1 q h1 h2), r3.2.2⟩, fun j y hy => ?_⟩
  by_cases hj : j < h.length
  · rw [List.getElem?_append_left hj] at hy
    rcases r4 j y hy with q | q
    · exact Or.inl q
    · exact Or.inr (q.kept (oq _ (by omega)))
  · rw [List.getElem?_append_right (by omega)] at hy
    have hz : j - h.length < 1 := (List.getElem?_eq_some_iff.mp hy).1
    have ej : j = h.length := by omega
    subst ej
    rw [Nat.sub_self] at hy
    cases hy
    exact Or.inr hx
