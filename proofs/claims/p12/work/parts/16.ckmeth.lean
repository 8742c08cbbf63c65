theorem xe_at_of {p : Nat} {w : Jvm.Cond} (h : xe_at p w = true) : w ∈ lw_tbl := List.mem_of_getElem? (of_decide_eq_true h)
theorem xe_in_of {p : Nat} {w : Jvm.Cond} (h : xe_inG p w = true) : w ∈ xe_G := by
  unfold xe_inG at h
  rw [Bool.and_eq_true] at h
  exact List.mem_filter.mpr ⟨xe_at_of h.1, h.2⟩
theorem xe_ob1 : Jvm.Cond.instanceMethod objectInit ∈ xe_G := xe_in_of (p := 76) (by decide +kernel)
theorem xe_ob2 : Jvm.Cond.code objectInit ⟨#[0xb1]⟩ 1 none ∈ xe_G := xe_in_of (p := 77) (by decide +kernel)
theorem xe_mL_all : xe_M.all (fun q => decide (q.2.2.1 ≤ 20)) = true := by decide +kernel
theorem xe_mL_le (mj : Nat) : xe_mL mj ≤ 20 := by
  unfold xe_mL
  by_cases h : mj < xe_M.length
  · rw [List.getD_eq_getElem?_getD, List.getElem?_eq_getElem h, Option.getD_some]
    exact of_decide_eq_true (List.all_eq_true.mp xe_mL_all _ (List.getElem_mem h))
  · rw [List.getD_eq_getElem?_getD, List.getElem?_eq_none (by omega), Option.getD_none]
    exact Nat.zero_le _
def xe_mcheck (mj : Nat) : Bool := (xe_mk mj).headD 9 == 9 || (xe_inG ((xe_mk mj).getD 4 0) (.initialized (xe_mY mj).cls) && (plainName (xe_mY mj).cls || decide (mj < 8)) && decide ((xe_mY mj).cls ≠ "java/lang/invoke/MethodHandle") && decide ((xe_mY mj).cls ≠ "java/lang/invoke/VarHandle") && decide ((parseMethodDescriptor (xe_mY mj).desc).map (fun d => d.parameters.length) = some ((xe_mk mj).getD 1 0)) &&
  (if (xe_mk mj).headD 9 = 0 then xe_inG ((xe_mk mj).getD 5 0) (.static (xe_mY mj)) else xe_inG ((xe_mk mj).getD 5 0) (.instanceMethod (xe_mY mj))) &&
  (if (xe_mk mj).headD 9 = 1 then xe_inG ((xe_mk mj).getD 6 0) (.selects (xe_mY mj).cls (xe_mY mj) (xe_mY mj)) && decide ((xe_cls[(xe_mk mj).getD 2 0]?).map (fun q => q.1) = some (xe_mY mj).cls) else true) &&
  (if (xe_mk mj).headD 9 = 2 then decide ((xe_mY mj).name = "<init>") && decide (xe_mR mj = none) else true))
theorem xe_mchk_0 : (List.range' 0 20).all xe_mcheck = true := by decide +kernel
theorem xe_mchk_1 : (List.range' 20 20).all xe_mcheck = true := by decide +kernel
theorem xe_mchk_2 : (List.range' 40 20).all xe_mcheck = true := by decide +kernel
theorem xe_mchk_3 : (List.range' 60 20).all xe_mcheck = true := by decide +kernel
theorem xe_mchk_4 : (List.range' 80 20).all xe_mcheck = true := by decide +kernel
theorem xe_mchk_5 : (List.range' 100 20).all xe_mcheck = true := by decide +kernel
theorem xe_mchk_6 : (List.range' 120 20).all xe_mcheck = true := by decide +kernel
theorem xe_mchk_7 : (List.range' 140 20).all xe_mcheck = true := by decide +kernel
theorem xe_mchk_8 : (List.range' 160 20).all xe_mcheck = true := by decide +kernel
theorem xe_mchk_9 : (List.range' 180 20).all xe_mcheck = true := by decide +kernel
theorem xe_mq_len : xe_mq.length ≤ 200 := by decide +kernel
theorem xe_mk_lt {mj : Nat} (h : (xe_mk mj).headD 9 ≠ 9) : mj < xe_mq.length := by
  by_cases q : mj < xe_mq.length
  · exact q
  · exfalso
    apply h
    unfold xe_mk
    rw [List.getD_eq_getElem?_getD, List.getElem?_eq_none (by omega)]
    rfl
theorem xe_mchk_all (mj : Nat) (h : (xe_mk mj).headD 9 ≠ 9) : xe_mcheck mj = true := by
  have hlt : mj < 200 := Nat.lt_of_lt_of_le (xe_mk_lt h) xe_mq_len
  by_cases h0 : mj < 20
  · exact List.all_eq_true.mp xe_mchk_0 mj (by rw [List.mem_range'_1]; omega)
  by_cases h1 : mj < 40
  · exact List.all_eq_true.mp xe_mchk_1 mj (by rw [List.mem_range'_1]; omega)
  by_cases h2 : mj < 60
  · exact List.all_eq_true.mp xe_mchk_2 mj (by rw [List.mem_range'_1]; omega)
  by_cases h3 : mj < 80
  · exact List.all_eq_true.mp xe_mchk_3 mj (by rw [List.mem_range'_1]; omega)
  by_cases h4 : mj < 100
  · exact List.all_eq_true.mp xe_mchk_4 mj (by rw [List.mem_range'_1]; omega)
  by_cases h5 : mj < 120
  · exact List.all_eq_true.mp xe_mchk_5 mj (by rw [List.mem_range'_1]; omega)
  by_cases h6 : mj < 140
  · exact List.all_eq_true.mp xe_mchk_6 mj (by rw [List.mem_range'_1]; omega)
  by_cases h7 : mj < 160
  · exact List.all_eq_true.mp xe_mchk_7 mj (by rw [List.mem_range'_1]; omega)
  by_cases h8 : mj < 180
  · exact List.all_eq_true.mp xe_mchk_8 mj (by rw [List.mem_range'_1]; omega)
  exact List.all_eq_true.mp xe_mchk_9 mj (by rw [List.mem_range'_1]; omega)
