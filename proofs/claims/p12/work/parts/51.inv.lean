theorem xe_ldI_inv {r : Option Value} {k : Int32 → Option xe_N} {y : xe_N} (h : xe_ldI r k = some y) : ∃ x, r = some (.int x) ∧ k x = some y := by
  unfold xe_ldI at h; split at h
  · exact ⟨_, rfl, h⟩
  · cases h
theorem xe_ldL_inv {r : Option Value} {k : Int64 → Option xe_N} {y : xe_N} (h : xe_ldL r k = some y) : ∃ x, r = some (.long x) ∧ k x = some y := by
  unfold xe_ldL at h; split at h
  · exact ⟨_, rfl, h⟩
  · cases h
theorem xe_p1_inv {st : List Value} {k : Int32 → List Value → Option xe_N} {y : xe_N} (h : xe_p1 st k = some y) : ∃ x r, st = .int x :: r ∧ k x r = some y := by
  unfold xe_p1 at h; split at h
  · exact ⟨_, _, rfl, h⟩
  · cases h
theorem xe_p2_inv {st : List Value} {k : Int32 → Int32 → List Value → Option xe_N} {y : xe_N} (h : xe_p2 st k = some y) : ∃ a b r, st = .int b :: .int a :: r ∧ k a b r = some y := by
  unfold xe_p2 at h; split at h
  · exact ⟨_, _, _, rfl, h⟩
  · cases h
theorem xe_pL_inv {st : List Value} {k : Int64 → List Value → Option xe_N} {y : xe_N} (h : xe_pL st k = some y) : ∃ x r, st = .long x :: r ∧ k x r = some y := by
  unfold xe_pL at h; split at h
  · exact ⟨_, _, rfl, h⟩
  · cases h
theorem xe_pLL_inv {st : List Value} {k : Int64 → Int64 → List Value → Option xe_N} {y : xe_N} (h : xe_pLL st k = some y) : ∃ a b r, st = .long b :: .long a :: r ∧ k a b r = some y := by
  unfold xe_pLL at h; split at h
  · exact ⟨_, _, _, rfl, h⟩
  · cases h
theorem xe_pLI_inv {st : List Value} {k : Int64 → Int32 → List Value → Option xe_N} {y : xe_N} (h : xe_pLI st k = some y) : ∃ a b r, st = .int b :: .long a :: r ∧ k a b r = some y := by
  unfold xe_pLI at h; split at h
  · exact ⟨_, _, _, rfl, h⟩
  · cases h
theorem xe_pR_inv {st : List Value} {k : Nat → List Value → Option xe_N} {y : xe_N} (h : xe_pR st k = some y) : ∃ x r, st = .ref x :: r ∧ k x r = some y := by
  unfold xe_pR at h; split at h
  · exact ⟨_, _, rfl, h⟩
  · cases h
theorem xe_pRI_inv {st : List Value} {k : Nat → Int32 → List Value → Option xe_N} {y : xe_N} (h : xe_pRI st k = some y) : ∃ a i r, st = .int i :: .ref a :: r ∧ k a i r = some y := by
  unfold xe_pRI at h; split at h
  · exact ⟨_, _, _, rfl, h⟩
  · cases h
theorem xe_pA_inv {st : List Value} {k : Value → List Value → Option xe_N} {y : xe_N} (h : xe_pA st k = some y) : ∃ x r, st = x :: r ∧ k x r = some y := by
  unfold xe_pA at h; split at h
  · exact ⟨_, _, rfl, h⟩
  · cases h
theorem xe_gi_inv {ov : List (List Int32)} {h : xe_H} {a : Nat} {k : List Int32 → Option xe_N} {y : xe_N} (q : xe_gi ov h a k = some y) : ∃ x, k x = some y ∧ ((∃ t, h[a]? = some (.inl (t, .inl x)) ∧ xe_ty[t]? = some .int) ∨ (¬ a < xe_o ∧ ov[a - xe_o]? = some x)) := by
  unfold xe_gi at q
  by_cases ha : a < xe_o
  · rw [if_pos ha] at q
    split at q
    · rename_i t x he
      split at q
      · exact ⟨x, q, Or.inl ⟨t, he, by assumption⟩⟩
      · cases q
    · cases q
  · rw [if_neg ha] at q
    split at q
    · rename_i x he
      exact ⟨x, q, Or.inr ⟨ha, he⟩⟩
    · cases q
theorem xe_gl_inv {h : xe_H} {a : Nat} {k : Nat → List Int64 → Option xe_N} {y : xe_N} (q : xe_gl h a k = some y) : ∃ t x, k t x = some y ∧ h[a]? = some (.inl (t, .inr (.inl x))) ∧ xe_ty[t]? = some .long := by
  unfold xe_gl at q
  split at q
  · rename_i t x he
    split at q
    · exact ⟨t, x, q, he, by assumption⟩
    · cases q
  · cases q
theorem xe_gw_inv {h : xe_H} {a : Nat} {ty : FieldType} {k : Nat → List Int32 → Option xe_N} {y : xe_N} (q : xe_gw h a ty k = some y) : ∃ t x, k t x = some y ∧ h[a]? = some (.inl (t, .inl x)) ∧ xe_ty[t]? = some ty := by
  unfold xe_gw at q
  split at q
  · rename_i t x he
    split at q
    · exact ⟨t, x, q, he, by assumption⟩
    · cases q
  · cases q
theorem xe_gq_inv {h : xe_H} {a : Nat} {k : Nat → String → List (Option Nat) → Option xe_N} {y : xe_N} (q : xe_gq h a k = some y) : ∃ t C x, k t C x = some y ∧ h[a]? = some (.inl (t, .inr (.inr x))) ∧ xe_ty[t]? = some (.object C) := by
  unfold xe_gq at q
  split at q
  · rename_i t x he
    split at q
    · rename_i C hC
      exact ⟨t, C, x, q, he, hC⟩
    · cases q
  · cases q
theorem xe_go_inv {h : xe_H} {a ci : Nat} {k : List Value → Option xe_N} {y : xe_N} (q : xe_go h a ci k = some y) : ∃ fs, k fs = some y ∧ h[a]? = some (.inr (ci, fs)) := by
  unfold xe_go at q
  split at q
  · rename_i cj fs he
    split at q
    · rename_i e; subst e; exact ⟨fs, q, he⟩
    · cases q
  · cases q
theorem xe_on_inv {x S' : xe_S} (h : xe_on x = some (.inl S')) : x = S' := Sum.inl.inj (Option.some.inj h)
theorem xe_if_inv {c : Prop} {hc : Decidable c} {x : Option xe_N} {y : xe_N} (h : (if c then x else none) = some y) : c ∧ x = some y := by
  by_cases q : c
  · rw [if_pos q] at h; exact ⟨q, h⟩
  · rw [if_neg q] at h; cases h
theorem xe_ifn_inv {c : Prop} {hc : Decidable c} {x : Option xe_N} {y : xe_N} (h : (if c then none else x) = some y) : ¬ c ∧ x = some y := by
  by_cases q : c
  · rw [if_pos q] at h; cases h
  · rw [if_neg q] at h; exact ⟨q, h⟩
theorem xe_fl_of {p : Nat} {own : String} {idx : Nat} {C n d : String} (h : xe_fl p own idx C n d = true) : Jvm.Cond.fieldLink own idx C n d ∈ xe_G ∨ ∃ host, Jvm.Cond.fieldLinkNest own idx C n d host ∈ xe_nw := by
  unfold xe_fl at h
  rw [Bool.or_eq_true] at h
  rcases h with h | h
  · exact Or.inl (xe_in_of h)
  · exact Or.inr ⟨_, List.mem_filter.mpr ⟨xe_at_of h, rfl⟩⟩
theorem xe_ml_of {p : Nat} {own : String} {idx : Nat} {y : MethodName} (h : xe_ml p own idx y = true) : Jvm.Cond.methodLink own idx y ∈ xe_G ∨ ∃ host, Jvm.Cond.methodLinkNest own idx y host ∈ xe_nw := by
  unfold xe_ml at h
  rw [Bool.or_eq_true] at h
  rcases h with h | h
  · exact Or.inl (xe_in_of h)
  · exact Or.inr ⟨_, List.mem_filter.mpr ⟨xe_at_of h, rfl⟩⟩
theorem xe_sz_set {h : xe_H} {a : Nat} {x y : xe_E} (hx : h[a]? = some x) (hw : xe_w y = xe_w x) : xe_sz (h.set a y) = xe_sz h := by
  unfold xe_sz
  rw [List.map_set, hw]
  congr 1
  apply List.ext_getElem?
  intro j
  by_cases hj : a = j
  · subst hj
    have hl := (List.getElem?_eq_some_iff.mp hx).1
    rw [List.getElem?_set_self (by rw [List.length_map]; exact hl), List.getElem?_map, hx]
    rfl
  · rw [List.getElem?_set_ne hj]
theorem xe_sz_push (h : xe_H) (x : xe_E) : xe_sz (h ++ [x]) = xe_sz h + xe_w x := by
  simp [xe_sz]
theorem xe_v_dv (ad : Nat → Nat) (ty : FieldType) : xe_v ad (defaultValue ty) = defaultValue ty := by cases ty <;> rfl
theorem xe_lg_len (vs : List Value) : (lg_sl vs).length = (vs.map fun v : Value => v.category).sum := by
  induction vs with
  | nil => rfl
  | cons v t ih =>
    have e : lg_sl (v :: t) = (if v.category = 2 then [.val v, .second] else [.val v]) ++ lg_sl t := by simp [lg_sl]
    rw [e, List.length_append, ih, List.map_cons, List.sum_cons]
    congr 1
    cases v <;> rfl
