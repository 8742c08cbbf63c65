theorem pf_1 : plainFor (xe_mY 1) = true := by decide +kernel
theorem pf_2 : plainFor (xe_mY 2) = true := (Bool.or_eq_true _ _).mpr (Or.inr _root_.Jvm.Lib.MathLoose.abs_int.noRow0)
theorem pf_3 : plainFor (xe_mY 3) = true := by decide +kernel
theorem pf_4 : plainFor (xe_mY 4) = true := by decide +kernel
theorem pf_5 : plainFor (xe_mY 5) = true := by decide +kernel
theorem pf_6 : plainFor (xe_mY 6) = true := (Bool.or_eq_true _ _).mpr (Or.inr _root_.Jvm.Lib.MathLoose.max_int.noRow0)
theorem pf_7 : plainFor (xe_mY 7) = true := (Bool.or_eq_true _ _).mpr (Or.inr _root_.Jvm.Lib.MathLoose.min_int.noRow0)
theorem xe_pf {mj : Nat} (h : (xe_mk mj).headD 9 ≠ 9) (h2 : (plainName (xe_mY mj).cls || decide (mj < 8)) = true) : plainFor (xe_mY mj) = true := by
  rw [Bool.or_eq_true, decide_eq_true_eq] at h2
  rcases h2 with q | q
  · exact plainFor_of_name q
  · match mj, q with
    | 0, _ => exact absurd rfl h
    | 1, _ => exact pf_1
    | 2, _ => exact pf_2
    | 3, _ => exact pf_3
    | 4, _ => exact pf_4
    | 5, _ => exact pf_5
    | 6, _ => exact pf_6
    | 7, _ => exact pf_7
    | n + 8, q => exact absurd q (by omega)
theorem xe_mok {mj : Nat} (h : (xe_mk mj).headD 9 ≠ 9) : Jvm.Cond.code (xe_mY mj) (xe_mB mj) (xe_mL mj) (xe_mR mj) ∈ xe_G ∧ Jvm.Cond.initialized (xe_mY mj).cls ∈ xe_G ∧ (plainFor (xe_mY mj) = true ∧ ((xe_mk mj).headD 9 = 2 → (xe_mY mj).name = "<init>" ∧ xe_mR mj = none)) ∧ (xe_mY mj).cls ≠ "java/lang/invoke/MethodHandle" ∧ (xe_mY mj).cls ≠ "java/lang/invoke/VarHandle" ∧ (parseMethodDescriptor (xe_mY mj).desc).map (fun d => d.parameters.length) = some ((xe_mk mj).getD 1 0) ∧
    ((xe_mk mj).headD 9 = 0 → Jvm.Cond.static (xe_mY mj) ∈ xe_G) ∧ ((xe_mk mj).headD 9 = 1 → Jvm.Cond.selects (xe_mY mj).cls (xe_mY mj) (xe_mY mj) ∈ xe_G ∧ (xe_cls[(xe_mk mj).getD 2 0]?).map (fun q => q.1) = some (xe_mY mj).cls) ∧ ((xe_mk mj).headD 9 ≠ 0 → Jvm.Cond.instanceMethod (xe_mY mj) ∈ xe_G) := by
  have hc := xe_mchk_all mj h
  unfold xe_mcheck at hc
  rw [Bool.or_eq_true, beq_iff_eq] at hc
  rcases hc with hc | hc
  · exact absurd hc h
  rw [Bool.and_eq_true, Bool.and_eq_true, Bool.and_eq_true, Bool.and_eq_true, Bool.and_eq_true, Bool.and_eq_true, Bool.and_eq_true, decide_eq_true_eq, decide_eq_true_eq, decide_eq_true_eq] at hc
  obtain ⟨⟨⟨⟨⟨⟨⟨c2, c3⟩, c4⟩, c5⟩, c6⟩, c7⟩, c8⟩, c9⟩ := hc
  have c1 := xe_cdF_get xe_mq 0 xe_cdF_ok mj h
  rw [Nat.zero_add] at c1
  refine ⟨c1, xe_in_of c2, ⟨xe_pf h c3, fun q => ?_⟩, c4, c5, c6, fun q => ?_, fun q => ?_, fun q => ?_⟩
  · rw [if_pos q, Bool.and_eq_true, decide_eq_true_eq, decide_eq_true_eq] at c9
    exact c9
  · rw [if_pos q] at c7
    exact xe_in_of c7
  · rw [if_pos q, Bool.and_eq_true, decide_eq_true_eq] at c8
    exact ⟨xe_in_of c8.1, c8.2⟩
  · rw [if_neg q] at c7
    exact xe_in_of c7
def xe_cchk (ci : Nat) : Bool := match xe_cls[ci]? with
  | some (C, T, N) => xe_inG ((xe_cp.getD ci []).getD 0 0) (.instantiable C N) && xe_inG ((xe_cp.getD ci []).getD 1 0) (.initialized C) && (List.range N).all (fun k => xe_inG ((xe_cp.getD ci []).getD (k + 2) 0) (u_lay C T k)) && ((xe_ft.getD ci []).length == N) && (List.range N).all (fun k => decide (parseFieldDescriptor (T k).2.2.1 = some ((xe_ft.getD ci []).getD k .int))) && (List.range N).all (fun a => (List.range N).all (fun b => a == b || (T a).2.1 != (T b).2.1))
  | none => true
theorem xe_cchk_all : (List.range 13).all xe_cchk = true := by decide +kernel
theorem xe_cok {ci N : Nat} {C : String} {T : u_T} (h : xe_cls[ci]? = some (C, T, N)) : (∀ w ∈ u_ws C T N, w ∈ xe_G) ∧ Jvm.Cond.instantiable C N ∈ xe_G ∧ Jvm.Cond.initialized C ∈ xe_G ∧ (xe_ft.getD ci []).length = N ∧ (∀ k, k < N → parseFieldDescriptor (T k).2.2.1 = some ((xe_ft.getD ci []).getD k .int)) ∧ (∀ a, a < N → ∀ b, b < N → a ≠ b → (T a).2.1 ≠ (T b).2.1) := by
  have hlt : ci < 13 := (List.getElem?_eq_some_iff.mp h).1
  have hc := List.all_eq_true.mp xe_cchk_all ci (List.mem_range.mpr hlt)
  unfold xe_cchk at hc
  rw [h] at hc
  dsimp only at hc
  rw [Bool.and_eq_true, Bool.and_eq_true, Bool.and_eq_true, Bool.and_eq_true, Bool.and_eq_true, beq_iff_eq] at hc
  obtain ⟨⟨⟨⟨⟨c1, c2⟩, c3⟩, c4⟩, c5⟩, c6⟩ := hc
  refine ⟨fun w hw => ?_, xe_in_of c1, xe_in_of c2, c4, fun k hk => ?_, fun a ha b hb hne => ?_⟩
  · obtain ⟨k, hk, rfl⟩ := List.mem_map.mp hw
    exact xe_in_of (List.all_eq_true.mp c3 k hk)
  · exact of_decide_eq_true (List.all_eq_true.mp c5 k (List.mem_range.mpr hk))
  · have h1 := List.all_eq_true.mp (List.all_eq_true.mp c6 a (List.mem_range.mpr ha)) b (List.mem_range.mpr hb)
    rw [Bool.or_eq_true, beq_iff_eq, bne_iff_ne] at h1
    rcases h1 with q | q
    · exact absurd q hne
    · exact q
