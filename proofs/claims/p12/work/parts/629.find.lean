/-! Rows of code by their places -/
def xs_inc : Nat → List (Nat × Instr × List Nat) → Bool
  | _, [] => true
  | lo, a :: l => Nat.ble lo a.1 && xs_inc (a.1 + 1) l
theorem xs_find : ∀ (l : List (Nat × Instr × List Nat)) (lo pc : Nat) (q : Instr × List Nat), xs_inc lo l = true → (pc, q) ∈ l → lo ≤ pc ∧ l.find? (fun z => z.1 == pc) = some (pc, q)
  | [], _, _, _, _, h => absurd h List.not_mem_nil
  | a :: l, lo, pc, q, hi, h => by
    have hi2 : (Nat.ble lo a.1 && xs_inc (a.1 + 1) l) = true := hi
    rw [Bool.and_eq_true] at hi2
    have h1 : lo ≤ a.1 := Nat.le_of_ble_eq_true hi2.1
    rcases List.mem_cons.mp h with e | e
    · subst e
      exact ⟨h1, List.find?_cons_of_pos (by simp)⟩
    · have ih := xs_find l (a.1 + 1) pc q hi2.2 e
      have ih1 := ih.1
      exact ⟨by omega, (List.find?_cons_of_neg (by simp; omega)).trans ih.2⟩
theorem xs_code {mi pc : Nat} {t : List (Nat × Instr × List Nat)} {q : Instr × List Nat} (ht : xe_cds[mi]? = some t) (hi : xs_inc 0 t = true) (h : (pc, q) ∈ t) : xe_code mi pc = some q := by
  unfold xe_code
  rw [List.getD_eq_getElem?_getD, ht, Option.getD_some, (xs_find t 0 pc q hi h).2]
  rfl
set_option maxRecDepth 100000 in
theorem kh_0 : xe_cds[0]? = some xk_0 := rfl
theorem kf_0 : xs_inc 0 xk_0 = true := by decide +kernel
theorem kg_0_0 {i pc : Nat} {q : Instr × List Nat} (h : xk_0_0[i]? = some (pc, q)) : xe_code 0 pc = some q := xs_code kh_0 kf_0 (List.mem_of_getElem? h)
set_option maxRecDepth 100000 in
theorem kh_1 : xe_cds[1]? = some xk_1 := rfl
theorem kf_1 : xs_inc 0 xk_1 = true := by decide +kernel
theorem kg_1_0 {i pc : Nat} {q : Instr × List Nat} (h : xk_1_0[i]? = some (pc, q)) : xe_code 1 pc = some q := xs_code kh_1 kf_1 (List.mem_of_getElem? h)
set_option maxRecDepth 100000 in
theorem kh_2 : xe_cds[2]? = some xk_2 := rfl
theorem kf_2 : xs_inc 0 xk_2 = true := by decide +kernel
theorem kg_2_0 {i pc : Nat} {q : Instr × List Nat} (h : xk_2_0[i]? = some (pc, q)) : xe_code 2 pc = some q := xs_code kh_2 kf_2 (List.mem_of_getElem? h)
set_option maxRecDepth 100000 in
theorem kh_3 : xe_cds[3]? = some xk_3 := rfl
theorem kf_3 : xs_inc 0 xk_3 = true := by decide +kernel
theorem kg_3_0 {i pc : Nat} {q : Instr × List Nat} (h : xk_3_0[i]? = some (pc, q)) : xe_code 3 pc = some q := xs_code kh_3 kf_3 (List.mem_of_getElem? h)
set_option maxRecDepth 100000 in
theorem kh_4 : xe_cds[4]? = some xk_4 := rfl
theorem kf_4 : xs_inc 0 xk_4 = true := by decide +kernel
theorem kg_4_0 {i pc : Nat} {q : Instr × List Nat} (h : xk_4_0[i]? = some (pc, q)) : xe_code 4 pc = some q := xs_code kh_4 kf_4 (List.mem_of_getElem? h)
set_option maxRecDepth 100000 in
theorem kh_5 : xe_cds[5]? = some xk_5 := rfl
theorem kf_5 : xs_inc 0 xk_5 = true := by decide +kernel
theorem kg_5_0 {i pc : Nat} {q : Instr × List Nat} (h : xk_5_0[i]? = some (pc, q)) : xe_code 5 pc = some q := xs_code kh_5 kf_5 (List.mem_append_left _ (List.mem_of_getElem? h))
theorem kg_5_1 {i pc : Nat} {q : Instr × List Nat} (h : xk_5_1[i]? = some (pc, q)) : xe_code 5 pc = some q := xs_code kh_5 kf_5 (List.mem_append_right _ (List.mem_of_getElem? h))
set_option maxRecDepth 100000 in
theorem kh_6 : xe_cds[6]? = some xk_6 := rfl
theorem kf_6 : xs_inc 0 xk_6 = true := by decide +kernel
theorem kg_6_0 {i pc : Nat} {q : Instr × List Nat} (h : xk_6_0[i]? = some (pc, q)) : xe_code 6 pc = some q := xs_code kh_6 kf_6 (List.mem_of_getElem? h)
set_option maxRecDepth 100000 in
theorem kh_7 : xe_cds[7]? = some xk_7 := rfl
theorem kf_7 : xs_inc 0 xk_7 = true := by decide +kernel
theorem kg_7_0 {i pc : Nat} {q : Instr × List Nat} (h : xk_7_0[i]? = some (pc, q)) : xe_code 7 pc = some q := xs_code kh_7 kf_7 (List.mem_of_getElem? h)
set_option maxRecDepth 100000 in
theorem kh_8 : xe_cds[8]? = some xk_8 := rfl
theorem kf_8 : xs_inc 0 xk_8 = true := by decide +kernel
theorem kg_8_0 {i pc : Nat} {q : Instr × List Nat} (h : xk_8_0[i]? = some (pc, q)) : xe_code 8 pc = some q := xs_code kh_8 kf_8 (List.mem_append_left _ (List.mem_of_getElem? h))
theorem kg_8_1 {i pc : Nat} {q : Instr × List Nat} (h : xk_8_1[i]? = some (pc, q)) : xe_code 8 pc = some q := xs_code kh_8 kf_8 (List.mem_append_right _ (List.mem_append_left _ (List.mem_of_getElem? h)))
theorem kg_8_2 {i pc : Nat} {q : Instr × List Nat} (h : xk_8_2[i]? = some (pc, q)) : xe_code 8 pc = some q := xs_code kh_8 kf_8 (List.mem_append_right _ (List.mem_append_right _ (List.mem_append_left _ (List.mem_of_getElem? h))))
theorem kg_8_3 {i pc : Nat} {q : Instr × List Nat} (h : xk_8_3[i]? = some (pc, q)) : xe_code 8 pc = some q := xs_code kh_8 kf_8 (List.mem_append_right _ (List.mem_append_right _ (List.mem_append_right _ (List.mem_append_left _ (List.mem_of_getElem? h)))))
theorem kg_8_4 {i pc : Nat} {q : Instr × List Nat} (h : xk_8_4[i]? = some (pc, q)) : xe_code 8 pc = some q := xs_code kh_8 kf_8 (List.mem_append_right _ (List.mem_append_right _ (List.mem_append_right _ (List.mem_append_right _ (List.mem_append_left _ (List.mem_of_getElem? h))))))
theorem kg_8_5 {i pc : Nat} {q : Instr × List Nat} (h : xk_8_5[i]? = some (pc, q)) : xe_code 8 pc = some q := xs_code kh_8 kf_8 (List.mem_append_right _ (List.mem_append_right _ (List.mem_append_right _ (List.mem_append_right _ (List.mem_append_right _ (List.mem_append_left _ (List.mem_of_getElem? h)))))))
theorem kg_8_6 {i pc : Nat} {q : Instr × List Nat} (h : xk_8_6[i]? = some (pc, q)) : xe_code 8 pc = some q := xs_code kh_8 kf_8 (List.mem_append_right _ (List.mem_append_right _ (List.mem_append_right _ (List.mem_append_right _ (List.mem_append_right _ (List.mem_append_right _ (List.mem_append_left _ (List.mem_of_getElem? h))))))))
theorem kg_8_7 {i pc : Nat} {q : Instr × List Nat} (h : xk_8_7[i]? = some (pc, q)) : xe_code 8 pc = some q := xs_code kh_8 kf_8 (List.mem_append_right _ (List.mem_append_right _ (List.mem_append_right _ (List.mem_append_right _ (List.mem_append_right _ (List.mem_append_right _ (List.mem_append_right _ (List.mem_of_getElem? h))))))))
set_option maxRecDepth 100000 in
theorem kh_9 : xe_cds[9]? = some xk_9 := rfl
theorem kf_9 : xs_inc 0 xk_9 = true := by decide +kernel
theorem kg_9_0 {i pc : Nat} {q : Instr × List Nat} (h : xk_9_0[i]? = some (pc, q)) : xe_code 9 pc = some q := xs_code kh_9 kf_9 (List.mem_append_left _ (List.mem_of_getElem? h))
theorem kg_9_1 {i pc : Nat} {q : Instr × List Nat} (h : xk_9_1[i]? = some (pc, q)) : xe_code 9 pc = some q := xs_code kh_9 kf_9 (List.mem_append_right _ (List.mem_of_getElem? h))
set_option maxRecDepth 100000 in
theorem kh_10 : xe_cds[10]? = some xk_10 := rfl
theorem kf_10 : xs_inc 0 xk_10 = true := by decide +kernel
theorem kg_10_0 {i pc : Nat} {q : Instr × List Nat} (h : xk_10_0[i]? = some (pc, q)) : xe_code 10 pc = some q := xs_code kh_10 kf_10 (List.mem_of_getElem? h)
set_option maxRecDepth 100000 in
theorem kh_11 : xe_cds[11]? = some xk_11 := rfl
theorem kf_11 : xs_inc 0 xk_11 = true := by decide +kernel
theorem kg_11_0 {i pc : Nat} {q : Instr × List Nat} (h : xk_11_0[i]? = some (pc, q)) : xe_code 11 pc = some q := xs_code kh_11 kf_11 (List.mem_of_getElem? h)
set_option maxRecDepth 100000 in
theorem kh_12 : xe_cds[12]? = some xk_12 := rfl
theorem kf_12 : xs_inc 0 xk_12 = true := by decide +kernel
theorem kg_12_0 {i pc : Nat} {q : Instr × List Nat} (h : xk_12_0[i]? = some (pc, q)) : xe_code 12 pc = some q := xs_code kh_12 kf_12 (List.mem_of_getElem? h)
set_option maxRecDepth 100000 in
theorem kh_13 : xe_cds[13]? = some xk_13 := rfl
theorem kf_13 : xs_inc 0 xk_13 = true := by decide +kernel
theorem kg_13_0 {i pc : Nat} {q : Instr × List Nat} (h : xk_13_0[i]? = some (pc, q)) : xe_code 13 pc = some q := xs_code kh_13 kf_13 (List.mem_of_getElem? h)
set_option maxRecDepth 100000 in
theorem kh_14 : xe_cds[14]? = some xk_14 := rfl
theorem kf_14 : xs_inc 0 xk_14 = true := by decide +kernel
theorem kg_14_0 {i pc : Nat} {q : Instr × List Nat} (h : xk_14_0[i]? = some (pc, q)) : xe_code 14 pc = some q := xs_code kh_14 kf_14 (List.mem_append_left _ (List.mem_of_getElem? h))
theorem kg_14_1 {i pc : Nat} {q : Instr × List Nat} (h : xk_14_1[i]? = some (pc, q)) : xe_code 14 pc = some q := xs_code kh_14 kf_14 (List.mem_append_right _ (List.mem_of_getElem? h))
set_option maxRecDepth 100000 in
theorem kh_15 : xe_cds[15]? = some xk_15 := rfl
theorem kf_15 : xs_inc 0 xk_15 = true := by decide +kernel
theorem kg_15_0 {i pc : Nat} {q : Instr × List Nat} (h : xk_15_0[i]? = some (pc, q)) : xe_code 15 pc = some q := xs_code kh_15 kf_15 (List.mem_append_left _ (List.mem_of_getElem? h))
theorem kg_15_1 {i pc : Nat} {q : Instr × List Nat} (h : xk_15_1[i]? = some (pc, q)) : xe_code 15 pc = some q := xs_code kh_15 kf_15 (List.mem_append_right _ (List.mem_of_getElem? h))
set_option maxRecDepth 100000 in
theorem kh_16 : xe_cds[16]? = some xk_16 := rfl
theorem kf_16 : xs_inc 0 xk_16 = true := by decide +kernel
theorem kg_16_0 {i pc : Nat} {q : Instr × List Nat} (h : xk_16_0[i]? = some (pc, q)) : xe_code 16 pc = some q := xs_code kh_16 kf_16 (List.mem_append_left _ (List.mem_of_getElem? h))
theorem kg_16_1 {i pc : Nat} {q : Instr × List Nat} (h : xk_16_1[i]? = some (pc, q)) : xe_code 16 pc = some q := xs_code kh_16 kf_16 (List.mem_append_right _ (List.mem_of_getElem? h))
set_option maxRecDepth 100000 in
theorem kh_17 : xe_cds[17]? = some xk_17 := rfl
theorem kf_17 : xs_inc 0 xk_17 = true := by decide +kernel
theorem kg_17_0 {i pc : Nat} {q : Instr × List Nat} (h : xk_17_0[i]? = some (pc, q)) : xe_code 17 pc = some q := xs_code kh_17 kf_17 (List.mem_of_getElem? h)
set_option maxRecDepth 100000 in
theorem kh_18 : xe_cds[18]? = some xk_18 := rfl
theorem kf_18 : xs_inc 0 xk_18 = true := by decide +kernel
theorem kg_18_0 {i pc : Nat} {q : Instr × List Nat} (h : xk_18_0[i]? = some (pc, q)) : xe_code 18 pc = some q := xs_code kh_18 kf_18 (List.mem_of_getElem? h)
set_option maxRecDepth 100000 in
theorem kh_19 : xe_cds[19]? = some xk_19 := rfl
theorem kf_19 : xs_inc 0 xk_19 = true := by decide +kernel
theorem kg_19_0 {i pc : Nat} {q : Instr × List Nat} (h : xk_19_0[i]? = some (pc, q)) : xe_code 19 pc = some q := xs_code kh_19 kf_19 (List.mem_of_getElem? h)
set_option maxRecDepth 100000 in
theorem kh_20 : xe_cds[20]? = some xk_20 := rfl
theorem kf_20 : xs_inc 0 xk_20 = true := by decide +kernel
theorem kg_20_0 {i pc : Nat} {q : Instr × List Nat} (h : xk_20_0[i]? = some (pc, q)) : xe_code 20 pc = some q := xs_code kh_20 kf_20 (List.mem_of_getElem? h)
set_option maxRecDepth 100000 in
theorem kh_21 : xe_cds[21]? = some xk_21 := rfl
theorem kf_21 : xs_inc 0 xk_21 = true := by decide +kernel
theorem kg_21_0 {i pc : Nat} {q : Instr × List Nat} (h : xk_21_0[i]? = some (pc, q)) : xe_code 21 pc = some q := xs_code kh_21 kf_21 (List.mem_of_getElem? h)
set_option maxRecDepth 100000 in
theorem kh_22 : xe_cds[22]? = some xk_22 := rfl
theorem kf_22 : xs_inc 0 xk_22 = true := by decide +kernel
theorem kg_22_0 {i pc : Nat} {q : Instr × List Nat} (h : xk_22_0[i]? = some (pc, q)) : xe_code 22 pc = some q := xs_code kh_22 kf_22 (List.mem_of_getElem? h)
set_option maxRecDepth 100000 in
theorem kh_23 : xe_cds[23]? = some xk_23 := rfl
theorem kf_23 : xs_inc 0 xk_23 = true := by decide +kernel
theorem kg_23_0 {i pc : Nat} {q : Instr × List Nat} (h : xk_23_0[i]? = some (pc, q)) : xe_code 23 pc = some q := xs_code kh_23 kf_23 (List.mem_append_left _ (List.mem_of_getElem? h))
theorem kg_23_1 {i pc : Nat} {q : Instr × List Nat} (h : xk_23_1[i]? = some (pc, q)) : xe_code 23 pc = some q := xs_code kh_23 kf_23 (List.mem_append_right _ (List.mem_of_getElem? h))
set_option maxRecDepth 100000 in
theorem kh_24 : xe_cds[24]? = some xk_24 := rfl
theorem kf_24 : xs_inc 0 xk_24 = true := by decide +kernel
theorem kg_24_0 {i pc : Nat} {q : Instr × List Nat} (h : xk_24_0[i]? = some (pc, q)) : xe_code 24 pc = some q := xs_code kh_24 kf_24 (List.mem_of_getElem? h)
set_option maxRecDepth 100000 in
theorem kh_25 : xe_cds[25]? = some xk_25 := rfl
theorem kf_25 : xs_inc 0 xk_25 = true := by decide +kernel
theorem kg_25_0 {i pc : Nat} {q : Instr × List Nat} (h : xk_25_0[i]? = some (pc, q)) : xe_code 25 pc = some q := xs_code kh_25 kf_25 (List.mem_append_left _ (List.mem_of_getElem? h))
theorem kg_25_1 {i pc : Nat} {q : Instr × List Nat} (h : xk_25_1[i]? = some (pc, q)) : xe_code 25 pc = some q := xs_code kh_25 kf_25 (List.mem_append_right _ (List.mem_of_getElem? h))
set_option maxRecDepth 100000 in
theorem kh_26 : xe_cds[26]? = some xk_26 := rfl
theorem kf_26 : xs_inc 0 xk_26 = true := by decide +kernel
theorem kg_26_0 {i pc : Nat} {q : Instr × List Nat} (h : xk_26_0[i]? = some (pc, q)) : xe_code 26 pc = some q := xs_code kh_26 kf_26 (List.mem_of_getElem? h)
set_option maxRecDepth 100000 in
theorem kh_27 : xe_cds[27]? = some xk_27 := rfl
theorem kf_27 : xs_inc 0 xk_27 = true := by decide +kernel
theorem kg_27_0 {i pc : Nat} {q : Instr × List Nat} (h : xk_27_0[i]? = some (pc, q)) : xe_code 27 pc = some q := xs_code kh_27 kf_27 (List.mem_of_getElem? h)
set_option maxRecDepth 100000 in
theorem kh_28 : xe_cds[28]? = some xk_28 := rfl
theorem kf_28 : xs_inc 0 xk_28 = true := by decide +kernel
theorem kg_28_0 {i pc : Nat} {q : Instr × List Nat} (h : xk_28_0[i]? = some (pc, q)) : xe_code 28 pc = some q := xs_code kh_28 kf_28 (List.mem_of_getElem? h)
set_option maxRecDepth 100000 in
theorem kh_29 : xe_cds[29]? = some xk_29 := rfl
theorem kf_29 : xs_inc 0 xk_29 = true := by decide +kernel
theorem kg_29_0 {i pc : Nat} {q : Instr × List Nat} (h : xk_29_0[i]? = some (pc, q)) : xe_code 29 pc = some q := xs_code kh_29 kf_29 (List.mem_of_getElem? h)
set_option maxRecDepth 100000 in
theorem kh_30 : xe_cds[30]? = some xk_30 := rfl
theorem kf_30 : xs_inc 0 xk_30 = true := by decide +kernel
theorem kg_30_0 {i pc : Nat} {q : Instr × List Nat} (h : xk_30_0[i]? = some (pc, q)) : xe_code 30 pc = some q := xs_code kh_30 kf_30 (List.mem_append_left _ (List.mem_of_getElem? h))
theorem kg_30_1 {i pc : Nat} {q : Instr × List Nat} (h : xk_30_1[i]? = some (pc, q)) : xe_code 30 pc = some q := xs_code kh_30 kf_30 (List.mem_append_right _ (List.mem_of_getElem? h))
set_option maxRecDepth 100000 in
theorem kh_31 : xe_cds[31]? = some xk_31 := rfl
theorem kf_31 : xs_inc 0 xk_31 = true := by decide +kernel
theorem kg_31_0 {i pc : Nat} {q : Instr × List Nat} (h : xk_31_0[i]? = some (pc, q)) : xe_code 31 pc = some q := xs_code kh_31 kf_31 (List.mem_of_getElem? h)
set_option maxRecDepth 100000 in
theorem kh_32 : xe_cds[32]? = some xk_32 := rfl
theorem kf_32 : xs_inc 0 xk_32 = true := by decide +kernel
theorem kg_32_0 {i pc : Nat} {q : Instr × List Nat} (h : xk_32_0[i]? = some (pc, q)) : xe_code 32 pc = some q := xs_code kh_32 kf_32 (List.mem_append_left _ (List.mem_of_getElem? h))
theorem kg_32_1 {i pc : Nat} {q : Instr × List Nat} (h : xk_32_1[i]? = some (pc, q)) : xe_code 32 pc = some q := xs_code kh_32 kf_32 (List.mem_append_right _ (List.mem_append_left _ (List.mem_of_getElem? h)))
theorem kg_32_2 {i pc : Nat} {q : Instr × List Nat} (h : xk_32_2[i]? = some (pc, q)) : xe_code 32 pc = some q := xs_code kh_32 kf_32 (List.mem_append_right _ (List.mem_append_right _ (List.mem_of_getElem? h)))
set_option maxRecDepth 100000 in
theorem kh_33 : xe_cds[33]? = some xk_33 := rfl
theorem kf_33 : xs_inc 0 xk_33 = true := by decide +kernel
theorem kg_33_0 {i pc : Nat} {q : Instr × List Nat} (h : xk_33_0[i]? = some (pc, q)) : xe_code 33 pc = some q := xs_code kh_33 kf_33 (List.mem_of_getElem? h)
set_option maxRecDepth 100000 in
theorem kh_34 : xe_cds[34]? = some xk_34 := rfl
theorem kf_34 : xs_inc 0 xk_34 = true := by decide +kernel
theorem kg_34_0 {i pc : Nat} {q : Instr × List Nat} (h : xk_34_0[i]? = some (pc, q)) : xe_code 34 pc = some q := xs_code kh_34 kf_34 (List.mem_of_getElem? h)
set_option maxRecDepth 100000 in
theorem kh_35 : xe_cds[35]? = some xk_35 := rfl
theorem kf_35 : xs_inc 0 xk_35 = true := by decide +kernel
theorem kg_35_0 {i pc : Nat} {q : Instr × List Nat} (h : xk_35_0[i]? = some (pc, q)) : xe_code 35 pc = some q := xs_code kh_35 kf_35 (List.mem_append_left _ (List.mem_of_getElem? h))
theorem kg_35_1 {i pc : Nat} {q : Instr × List Nat} (h : xk_35_1[i]? = some (pc, q)) : xe_code 35 pc = some q := xs_code kh_35 kf_35 (List.mem_append_right _ (List.mem_append_left _ (List.mem_of_getElem? h)))
theorem kg_35_2 {i pc : Nat} {q : Instr × List Nat} (h : xk_35_2[i]? = some (pc, q)) : xe_code 35 pc = some q := xs_code kh_35 kf_35 (List.mem_append_right _ (List.mem_append_right _ (List.mem_append_left _ (List.mem_of_getElem? h))))
theorem kg_35_3 {i pc : Nat} {q : Instr × List Nat} (h : xk_35_3[i]? = some (pc, q)) : xe_code 35 pc = some q := xs_code kh_35 kf_35 (List.mem_append_right _ (List.mem_append_right _ (List.mem_append_right _ (List.mem_append_left _ (List.mem_of_getElem? h)))))
theorem kg_35_4 {i pc : Nat} {q : Instr × List Nat} (h : xk_35_4[i]? = some (pc, q)) : xe_code 35 pc = some q := xs_code kh_35 kf_35 (List.mem_append_right _ (List.mem_append_right _ (List.mem_append_right _ (List.mem_append_right _ (List.mem_of_getElem? h)))))
set_option maxRecDepth 100000 in
theorem kh_36 : xe_cds[36]? = some xk_36 := rfl
theorem kf_36 : xs_inc 0 xk_36 = true := by decide +kernel
theorem kg_36_0 {i pc : Nat} {q : Instr × List Nat} (h : xk_36_0[i]? = some (pc, q)) : xe_code 36 pc = some q := xs_code kh_36 kf_36 (List.mem_append_left _ (List.mem_of_getElem? h))
theorem kg_36_1 {i pc : Nat} {q : Instr × List Nat} (h : xk_36_1[i]? = some (pc, q)) : xe_code 36 pc = some q := xs_code kh_36 kf_36 (List.mem_append_right _ (List.mem_append_left _ (List.mem_of_getElem? h)))
theorem kg_36_2 {i pc : Nat} {q : Instr × List Nat} (h : xk_36_2[i]? = some (pc, q)) : xe_code 36 pc = some q := xs_code kh_36 kf_36 (List.mem_append_right _ (List.mem_append_right _ (List.mem_of_getElem? h)))
set_option maxRecDepth 100000 in
theorem kh_37 : xe_cds[37]? = some xk_37 := rfl
theorem kf_37 : xs_inc 0 xk_37 = true := by decide +kernel
theorem kg_37_0 {i pc : Nat} {q : Instr × List Nat} (h : xk_37_0[i]? = some (pc, q)) : xe_code 37 pc = some q := xs_code kh_37 kf_37 (List.mem_append_left _ (List.mem_of_getElem? h))
theorem kg_37_1 {i pc : Nat} {q : Instr × List Nat} (h : xk_37_1[i]? = some (pc, q)) : xe_code 37 pc = some q := xs_code kh_37 kf_37 (List.mem_append_right _ (List.mem_append_left _ (List.mem_of_getElem? h)))
theorem kg_37_2 {i pc : Nat} {q : Instr × List Nat} (h : xk_37_2[i]? = some (pc, q)) : xe_code 37 pc = some q := xs_code kh_37 kf_37 (List.mem_append_right _ (List.mem_append_right _ (List.mem_of_getElem? h)))
set_option maxRecDepth 100000 in
theorem kh_38 : xe_cds[38]? = some xk_38 := rfl
theorem kf_38 : xs_inc 0 xk_38 = true := by decide +kernel
theorem kg_38_0 {i pc : Nat} {q : Instr × List Nat} (h : xk_38_0[i]? = some (pc, q)) : xe_code 38 pc = some q := xs_code kh_38 kf_38 (List.mem_of_getElem? h)
set_option maxRecDepth 100000 in
theorem kh_39 : xe_cds[39]? = some xk_39 := rfl
theorem kf_39 : xs_inc 0 xk_39 = true := by decide +kernel
theorem kg_39_0 {i pc : Nat} {q : Instr × List Nat} (h : xk_39_0[i]? = some (pc, q)) : xe_code 39 pc = some q := xs_code kh_39 kf_39 (List.mem_of_getElem? h)
set_option maxRecDepth 100000 in
theorem kh_40 : xe_cds[40]? = some xk_40 := rfl
theorem kf_40 : xs_inc 0 xk_40 = true := by decide +kernel
theorem kg_40_0 {i pc : Nat} {q : Instr × List Nat} (h : xk_40_0[i]? = some (pc, q)) : xe_code 40 pc = some q := xs_code kh_40 kf_40 (List.mem_append_left _ (List.mem_of_getElem? h))
theorem kg_40_1 {i pc : Nat} {q : Instr × List Nat} (h : xk_40_1[i]? = some (pc, q)) : xe_code 40 pc = some q := xs_code kh_40 kf_40 (List.mem_append_right _ (List.mem_append_left _ (List.mem_of_getElem? h)))
theorem kg_40_2 {i pc : Nat} {q : Instr × List Nat} (h : xk_40_2[i]? = some (pc, q)) : xe_code 40 pc = some q := xs_code kh_40 kf_40 (List.mem_append_right _ (List.mem_append_right _ (List.mem_of_getElem? h)))
set_option maxRecDepth 100000 in
theorem kh_41 : xe_cds[41]? = some xk_41 := rfl
theorem kf_41 : xs_inc 0 xk_41 = true := by decide +kernel
theorem kg_41_0 {i pc : Nat} {q : Instr × List Nat} (h : xk_41_0[i]? = some (pc, q)) : xe_code 41 pc = some q := xs_code kh_41 kf_41 (List.mem_of_getElem? h)
set_option maxRecDepth 100000 in
theorem kh_42 : xe_cds[42]? = some xk_42 := rfl
theorem kf_42 : xs_inc 0 xk_42 = true := by decide +kernel
theorem kg_42_0 {i pc : Nat} {q : Instr × List Nat} (h : xk_42_0[i]? = some (pc, q)) : xe_code 42 pc = some q := xs_code kh_42 kf_42 (List.mem_of_getElem? h)
set_option maxRecDepth 100000 in
theorem kh_43 : xe_cds[43]? = some xk_43 := rfl
theorem kf_43 : xs_inc 0 xk_43 = true := by decide +kernel
theorem kg_43_0 {i pc : Nat} {q : Instr × List Nat} (h : xk_43_0[i]? = some (pc, q)) : xe_code 43 pc = some q := xs_code kh_43 kf_43 (List.mem_of_getElem? h)
set_option maxRecDepth 100000 in
theorem kh_44 : xe_cds[44]? = some xk_44 := rfl
theorem kf_44 : xs_inc 0 xk_44 = true := by decide +kernel
theorem kg_44_0 {i pc : Nat} {q : Instr × List Nat} (h : xk_44_0[i]? = some (pc, q)) : xe_code 44 pc = some q := xs_code kh_44 kf_44 (List.mem_of_getElem? h)
set_option maxRecDepth 100000 in
theorem kh_45 : xe_cds[45]? = some xk_45 := rfl
theorem kf_45 : xs_inc 0 xk_45 = true := by decide +kernel
theorem kg_45_0 {i pc : Nat} {q : Instr × List Nat} (h : xk_45_0[i]? = some (pc, q)) : xe_code 45 pc = some q := xs_code kh_45 kf_45 (List.mem_append_left _ (List.mem_of_getElem? h))
theorem kg_45_1 {i pc : Nat} {q : Instr × List Nat} (h : xk_45_1[i]? = some (pc, q)) : xe_code 45 pc = some q := xs_code kh_45 kf_45 (List.mem_append_right _ (List.mem_append_left _ (List.mem_of_getElem? h)))
theorem kg_45_2 {i pc : Nat} {q : Instr × List Nat} (h : xk_45_2[i]? = some (pc, q)) : xe_code 45 pc = some q := xs_code kh_45 kf_45 (List.mem_append_right _ (List.mem_append_right _ (List.mem_of_getElem? h)))
set_option maxRecDepth 100000 in
theorem kh_46 : xe_cds[46]? = some xk_46 := rfl
theorem kf_46 : xs_inc 0 xk_46 = true := by decide +kernel
theorem kg_46_0 {i pc : Nat} {q : Instr × List Nat} (h : xk_46_0[i]? = some (pc, q)) : xe_code 46 pc = some q := xs_code kh_46 kf_46 (List.mem_of_getElem? h)
set_option maxRecDepth 100000 in
theorem kh_47 : xe_cds[47]? = some xk_47 := rfl
theorem kf_47 : xs_inc 0 xk_47 = true := by decide +kernel
theorem kg_47_0 {i pc : Nat} {q : Instr × List Nat} (h : xk_47_0[i]? = some (pc, q)) : xe_code 47 pc = some q := xs_code kh_47 kf_47 (List.mem_of_getElem? h)
set_option maxRecDepth 100000 in
theorem kh_48 : xe_cds[48]? = some xk_48 := rfl
theorem kf_48 : xs_inc 0 xk_48 = true := by decide +kernel
theorem kg_48_0 {i pc : Nat} {q : Instr × List Nat} (h : xk_48_0[i]? = some (pc, q)) : xe_code 48 pc = some q := xs_code kh_48 kf_48 (List.mem_append_left _ (List.mem_of_getElem? h))
theorem kg_48_1 {i pc : Nat} {q : Instr × List Nat} (h : xk_48_1[i]? = some (pc, q)) : xe_code 48 pc = some q := xs_code kh_48 kf_48 (List.mem_append_right _ (List.mem_of_getElem? h))
set_option maxRecDepth 100000 in
theorem kh_49 : xe_cds[49]? = some xk_49 := rfl
theorem kf_49 : xs_inc 0 xk_49 = true := by decide +kernel
theorem kg_49_0 {i pc : Nat} {q : Instr × List Nat} (h : xk_49_0[i]? = some (pc, q)) : xe_code 49 pc = some q := xs_code kh_49 kf_49 (List.mem_of_getElem? h)
set_option maxRecDepth 100000 in
theorem kh_50 : xe_cds[50]? = some xk_50 := rfl
theorem kf_50 : xs_inc 0 xk_50 = true := by decide +kernel
theorem kg_50_0 {i pc : Nat} {q : Instr × List Nat} (h : xk_50_0[i]? = some (pc, q)) : xe_code 50 pc = some q := xs_code kh_50 kf_50 (List.mem_append_left _ (List.mem_of_getElem? h))
theorem kg_50_1 {i pc : Nat} {q : Instr × List Nat} (h : xk_50_1[i]? = some (pc, q)) : xe_code 50 pc = some q := xs_code kh_50 kf_50 (List.mem_append_right _ (List.mem_of_getElem? h))
set_option maxRecDepth 100000 in
theorem kh_51 : xe_cds[51]? = some xk_51 := rfl
theorem kf_51 : xs_inc 0 xk_51 = true := by decide +kernel
theorem kg_51_0 {i pc : Nat} {q : Instr × List Nat} (h : xk_51_0[i]? = some (pc, q)) : xe_code 51 pc = some q := xs_code kh_51 kf_51 (List.mem_of_getElem? h)
set_option maxRecDepth 100000 in
theorem kh_52 : xe_cds[52]? = some xk_52 := rfl
theorem kf_52 : xs_inc 0 xk_52 = true := by decide +kernel
theorem kg_52_0 {i pc : Nat} {q : Instr × List Nat} (h : xk_52_0[i]? = some (pc, q)) : xe_code 52 pc = some q := xs_code kh_52 kf_52 (List.mem_of_getElem? h)
set_option maxRecDepth 100000 in
theorem kh_53 : xe_cds[53]? = some xk_53 := rfl
theorem kf_53 : xs_inc 0 xk_53 = true := by decide +kernel
theorem kg_53_0 {i pc : Nat} {q : Instr × List Nat} (h : xk_53_0[i]? = some (pc, q)) : xe_code 53 pc = some q := xs_code kh_53 kf_53 (List.mem_of_getElem? h)
set_option maxRecDepth 100000 in
theorem kh_54 : xe_cds[54]? = some xk_54 := rfl
theorem kf_54 : xs_inc 0 xk_54 = true := by decide +kernel
theorem kg_54_0 {i pc : Nat} {q : Instr × List Nat} (h : xk_54_0[i]? = some (pc, q)) : xe_code 54 pc = some q := xs_code kh_54 kf_54 (List.mem_of_getElem? h)
set_option maxRecDepth 100000 in
theorem kh_55 : xe_cds[55]? = some xk_55 := rfl
theorem kf_55 : xs_inc 0 xk_55 = true := by decide +kernel
theorem kg_55_0 {i pc : Nat} {q : Instr × List Nat} (h : xk_55_0[i]? = some (pc, q)) : xe_code 55 pc = some q := xs_code kh_55 kf_55 (List.mem_append_left _ (List.mem_of_getElem? h))
theorem kg_55_1 {i pc : Nat} {q : Instr × List Nat} (h : xk_55_1[i]? = some (pc, q)) : xe_code 55 pc = some q := xs_code kh_55 kf_55 (List.mem_append_right _ (List.mem_of_getElem? h))
set_option maxRecDepth 100000 in
theorem kh_56 : xe_cds[56]? = some xk_56 := rfl
theorem kf_56 : xs_inc 0 xk_56 = true := by decide +kernel
theorem kg_56_0 {i pc : Nat} {q : Instr × List Nat} (h : xk_56_0[i]? = some (pc, q)) : xe_code 56 pc = some q := xs_code kh_56 kf_56 (List.mem_of_getElem? h)
set_option maxRecDepth 100000 in
theorem kh_57 : xe_cds[57]? = some xk_57 := rfl
theorem kf_57 : xs_inc 0 xk_57 = true := by decide +kernel
theorem kg_57_0 {i pc : Nat} {q : Instr × List Nat} (h : xk_57_0[i]? = some (pc, q)) : xe_code 57 pc = some q := xs_code kh_57 kf_57 (List.mem_append_left _ (List.mem_of_getElem? h))
theorem kg_57_1 {i pc : Nat} {q : Instr × List Nat} (h : xk_57_1[i]? = some (pc, q)) : xe_code 57 pc = some q := xs_code kh_57 kf_57 (List.mem_append_right _ (List.mem_of_getElem? h))
set_option maxRecDepth 100000 in
theorem kh_58 : xe_cds[58]? = some xk_58 := rfl
theorem kf_58 : xs_inc 0 xk_58 = true := by decide +kernel
theorem kg_58_0 {i pc : Nat} {q : Instr × List Nat} (h : xk_58_0[i]? = some (pc, q)) : xe_code 58 pc = some q := xs_code kh_58 kf_58 (List.mem_append_left _ (List.mem_of_getElem? h))
theorem kg_58_1 {i pc : Nat} {q : Instr × List Nat} (h : xk_58_1[i]? = some (pc, q)) : xe_code 58 pc = some q := xs_code kh_58 kf_58 (List.mem_append_right _ (List.mem_append_left _ (List.mem_of_getElem? h)))
theorem kg_58_2 {i pc : Nat} {q : Instr × List Nat} (h : xk_58_2[i]? = some (pc, q)) : xe_code 58 pc = some q := xs_code kh_58 kf_58 (List.mem_append_right _ (List.mem_append_right _ (List.mem_of_getElem? h)))
set_option maxRecDepth 100000 in
theorem kh_59 : xe_cds[59]? = some xk_59 := rfl
theorem kf_59 : xs_inc 0 xk_59 = true := by decide +kernel
theorem kg_59_0 {i pc : Nat} {q : Instr × List Nat} (h : xk_59_0[i]? = some (pc, q)) : xe_code 59 pc = some q := xs_code kh_59 kf_59 (List.mem_append_left _ (List.mem_of_getElem? h))
theorem kg_59_1 {i pc : Nat} {q : Instr × List Nat} (h : xk_59_1[i]? = some (pc, q)) : xe_code 59 pc = some q := xs_code kh_59 kf_59 (List.mem_append_right _ (List.mem_of_getElem? h))
set_option maxRecDepth 100000 in
theorem kh_60 : xe_cds[60]? = some xk_60 := rfl
theorem kf_60 : xs_inc 0 xk_60 = true := by decide +kernel
theorem kg_60_0 {i pc : Nat} {q : Instr × List Nat} (h : xk_60_0[i]? = some (pc, q)) : xe_code 60 pc = some q := xs_code kh_60 kf_60 (List.mem_of_getElem? h)
set_option maxRecDepth 100000 in
theorem kh_61 : xe_cds[61]? = some xk_61 := rfl
theorem kf_61 : xs_inc 0 xk_61 = true := by decide +kernel
theorem kg_61_0 {i pc : Nat} {q : Instr × List Nat} (h : xk_61_0[i]? = some (pc, q)) : xe_code 61 pc = some q := xs_code kh_61 kf_61 (List.mem_append_left _ (List.mem_of_getElem? h))
theorem kg_61_1 {i pc : Nat} {q : Instr × List Nat} (h : xk_61_1[i]? = some (pc, q)) : xe_code 61 pc = some q := xs_code kh_61 kf_61 (List.mem_append_right _ (List.mem_append_left _ (List.mem_of_getElem? h)))
theorem kg_61_2 {i pc : Nat} {q : Instr × List Nat} (h : xk_61_2[i]? = some (pc, q)) : xe_code 61 pc = some q := xs_code kh_61 kf_61 (List.mem_append_right _ (List.mem_append_right _ (List.mem_of_getElem? h)))
set_option maxRecDepth 100000 in
theorem kh_62 : xe_cds[62]? = some xk_62 := rfl
theorem kf_62 : xs_inc 0 xk_62 = true := by decide +kernel
theorem kg_62_0 {i pc : Nat} {q : Instr × List Nat} (h : xk_62_0[i]? = some (pc, q)) : xe_code 62 pc = some q := xs_code kh_62 kf_62 (List.mem_append_left _ (List.mem_of_getElem? h))
theorem kg_62_1 {i pc : Nat} {q : Instr × List Nat} (h : xk_62_1[i]? = some (pc, q)) : xe_code 62 pc = some q := xs_code kh_62 kf_62 (List.mem_append_right _ (List.mem_of_getElem? h))
set_option maxRecDepth 100000 in
theorem kh_63 : xe_cds[63]? = some xk_63 := rfl
theorem kf_63 : xs_inc 0 xk_63 = true := by decide +kernel
theorem kg_63_0 {i pc : Nat} {q : Instr × List Nat} (h : xk_63_0[i]? = some (pc, q)) : xe_code 63 pc = some q := xs_code kh_63 kf_63 (List.mem_of_getElem? h)
set_option maxRecDepth 100000 in
theorem kh_64 : xe_cds[64]? = some xk_64 := rfl
theorem kf_64 : xs_inc 0 xk_64 = true := by decide +kernel
theorem kg_64_0 {i pc : Nat} {q : Instr × List Nat} (h : xk_64_0[i]? = some (pc, q)) : xe_code 64 pc = some q := xs_code kh_64 kf_64 (List.mem_append_left _ (List.mem_of_getElem? h))
theorem kg_64_1 {i pc : Nat} {q : Instr × List Nat} (h : xk_64_1[i]? = some (pc, q)) : xe_code 64 pc = some q := xs_code kh_64 kf_64 (List.mem_append_right _ (List.mem_of_getElem? h))
set_option maxRecDepth 100000 in
theorem kh_65 : xe_cds[65]? = some xk_65 := rfl
theorem kf_65 : xs_inc 0 xk_65 = true := by decide +kernel
theorem kg_65_0 {i pc : Nat} {q : Instr × List Nat} (h : xk_65_0[i]? = some (pc, q)) : xe_code 65 pc = some q := xs_code kh_65 kf_65 (List.mem_of_getElem? h)
set_option maxRecDepth 100000 in
theorem kh_66 : xe_cds[66]? = some xk_66 := rfl
theorem kf_66 : xs_inc 0 xk_66 = true := by decide +kernel
theorem kg_66_0 {i pc : Nat} {q : Instr × List Nat} (h : xk_66_0[i]? = some (pc, q)) : xe_code 66 pc = some q := xs_code kh_66 kf_66 (List.mem_of_getElem? h)
set_option maxRecDepth 100000 in
theorem kh_67 : xe_cds[67]? = some xk_67 := rfl
theorem kf_67 : xs_inc 0 xk_67 = true := by decide +kernel
theorem kg_67_0 {i pc : Nat} {q : Instr × List Nat} (h : xk_67_0[i]? = some (pc, q)) : xe_code 67 pc = some q := xs_code kh_67 kf_67 (List.mem_of_getElem? h)
set_option maxRecDepth 100000 in
theorem kh_68 : xe_cds[68]? = some xk_68 := rfl
theorem kf_68 : xs_inc 0 xk_68 = true := by decide +kernel
theorem kg_68_0 {i pc : Nat} {q : Instr × List Nat} (h : xk_68_0[i]? = some (pc, q)) : xe_code 68 pc = some q := xs_code kh_68 kf_68 (List.mem_append_left _ (List.mem_of_getElem? h))
theorem kg_68_1 {i pc : Nat} {q : Instr × List Nat} (h : xk_68_1[i]? = some (pc, q)) : xe_code 68 pc = some q := xs_code kh_68 kf_68 (List.mem_append_right _ (List.mem_append_left _ (List.mem_of_getElem? h)))
theorem kg_68_2 {i pc : Nat} {q : Instr × List Nat} (h : xk_68_2[i]? = some (pc, q)) : xe_code 68 pc = some q := xs_code kh_68 kf_68 (List.mem_append_right _ (List.mem_append_right _ (List.mem_of_getElem? h)))
set_option maxRecDepth 100000 in
theorem kh_69 : xe_cds[69]? = some xk_69 := rfl
theorem kf_69 : xs_inc 0 xk_69 = true := by decide +kernel
theorem kg_69_0 {i pc : Nat} {q : Instr × List Nat} (h : xk_69_0[i]? = some (pc, q)) : xe_code 69 pc = some q := xs_code kh_69 kf_69 (List.mem_of_getElem? h)
set_option maxRecDepth 100000 in
theorem kh_70 : xe_cds[70]? = some xk_70 := rfl
theorem kf_70 : xs_inc 0 xk_70 = true := by decide +kernel
theorem kg_70_0 {i pc : Nat} {q : Instr × List Nat} (h : xk_70_0[i]? = some (pc, q)) : xe_code 70 pc = some q := xs_code kh_70 kf_70 (List.mem_append_left _ (List.mem_of_getElem? h))
theorem kg_70_1 {i pc : Nat} {q : Instr × List Nat} (h : xk_70_1[i]? = some (pc, q)) : xe_code 70 pc = some q := xs_code kh_70 kf_70 (List.mem_append_right _ (List.mem_of_getElem? h))
set_option maxRecDepth 100000 in
theorem kh_71 : xe_cds[71]? = some xk_71 := rfl
theorem kf_71 : xs_inc 0 xk_71 = true := by decide +kernel
theorem kg_71_0 {i pc : Nat} {q : Instr × List Nat} (h : xk_71_0[i]? = some (pc, q)) : xe_code 71 pc = some q := xs_code kh_71 kf_71 (List.mem_of_getElem? h)
set_option maxRecDepth 100000 in
theorem kh_72 : xe_cds[72]? = some xk_72 := rfl
theorem kf_72 : xs_inc 0 xk_72 = true := by decide +kernel
theorem kg_72_0 {i pc : Nat} {q : Instr × List Nat} (h : xk_72_0[i]? = some (pc, q)) : xe_code 72 pc = some q := xs_code kh_72 kf_72 (List.mem_of_getElem? h)
set_option maxRecDepth 100000 in
theorem kh_73 : xe_cds[73]? = some xk_73 := rfl
theorem kf_73 : xs_inc 0 xk_73 = true := by decide +kernel
theorem kg_73_0 {i pc : Nat} {q : Instr × List Nat} (h : xk_73_0[i]? = some (pc, q)) : xe_code 73 pc = some q := xs_code kh_73 kf_73 (List.mem_append_left _ (List.mem_of_getElem? h))
theorem kg_73_1 {i pc : Nat} {q : Instr × List Nat} (h : xk_73_1[i]? = some (pc, q)) : xe_code 73 pc = some q := xs_code kh_73 kf_73 (List.mem_append_right _ (List.mem_append_left _ (List.mem_of_getElem? h)))
theorem kg_73_2 {i pc : Nat} {q : Instr × List Nat} (h : xk_73_2[i]? = some (pc, q)) : xe_code 73 pc = some q := xs_code kh_73 kf_73 (List.mem_append_right _ (List.mem_append_right _ (List.mem_of_getElem? h)))
set_option maxRecDepth 100000 in
theorem kh_74 : xe_cds[74]? = some xk_74 := rfl
theorem kf_74 : xs_inc 0 xk_74 = true := by decide +kernel
theorem kg_74_0 {i pc : Nat} {q : Instr × List Nat} (h : xk_74_0[i]? = some (pc, q)) : xe_code 74 pc = some q := xs_code kh_74 kf_74 (List.mem_of_getElem? h)
set_option maxRecDepth 100000 in
theorem kh_75 : xe_cds[75]? = some xk_75 := rfl
theorem kf_75 : xs_inc 0 xk_75 = true := by decide +kernel
theorem kg_75_0 {i pc : Nat} {q : Instr × List Nat} (h : xk_75_0[i]? = some (pc, q)) : xe_code 75 pc = some q := xs_code kh_75 kf_75 (List.mem_append_left _ (List.mem_of_getElem? h))
theorem kg_75_1 {i pc : Nat} {q : Instr × List Nat} (h : xk_75_1[i]? = some (pc, q)) : xe_code 75 pc = some q := xs_code kh_75 kf_75 (List.mem_append_right _ (List.mem_append_left _ (List.mem_of_getElem? h)))
theorem kg_75_2 {i pc : Nat} {q : Instr × List Nat} (h : xk_75_2[i]? = some (pc, q)) : xe_code 75 pc = some q := xs_code kh_75 kf_75 (List.mem_append_right _ (List.mem_append_right _ (List.mem_of_getElem? h)))
set_option maxRecDepth 100000 in
theorem kh_76 : xe_cds[76]? = some xk_76 := rfl
theorem kf_76 : xs_inc 0 xk_76 = true := by decide +kernel
theorem kg_76_0 {i pc : Nat} {q : Instr × List Nat} (h : xk_76_0[i]? = some (pc, q)) : xe_code 76 pc = some q := xs_code kh_76 kf_76 (List.mem_append_left _ (List.mem_of_getElem? h))
theorem kg_76_1 {i pc : Nat} {q : Instr × List Nat} (h : xk_76_1[i]? = some (pc, q)) : xe_code 76 pc = some q := xs_code kh_76 kf_76 (List.mem_append_right _ (List.mem_of_getElem? h))
set_option maxRecDepth 100000 in
theorem kh_77 : xe_cds[77]? = some xk_77 := rfl
theorem kf_77 : xs_inc 0 xk_77 = true := by decide +kernel
theorem kg_77_0 {i pc : Nat} {q : Instr × List Nat} (h : xk_77_0[i]? = some (pc, q)) : xe_code 77 pc = some q := xs_code kh_77 kf_77 (List.mem_append_left _ (List.mem_of_getElem? h))
theorem kg_77_1 {i pc : Nat} {q : Instr × List Nat} (h : xk_77_1[i]? = some (pc, q)) : xe_code 77 pc = some q := xs_code kh_77 kf_77 (List.mem_append_right _ (List.mem_of_getElem? h))
set_option maxRecDepth 100000 in
theorem kh_78 : xe_cds[78]? = some xk_78 := rfl
theorem kf_78 : xs_inc 0 xk_78 = true := by decide +kernel
theorem kg_78_0 {i pc : Nat} {q : Instr × List Nat} (h : xk_78_0[i]? = some (pc, q)) : xe_code 78 pc = some q := xs_code kh_78 kf_78 (List.mem_of_getElem? h)
set_option maxRecDepth 100000 in
theorem kh_79 : xe_cds[79]? = some xk_79 := rfl
theorem kf_79 : xs_inc 0 xk_79 = true := by decide +kernel
theorem kg_79_0 {i pc : Nat} {q : Instr × List Nat} (h : xk_79_0[i]? = some (pc, q)) : xe_code 79 pc = some q := xs_code kh_79 kf_79 (List.mem_of_getElem? h)
set_option maxRecDepth 100000 in
theorem kh_80 : xe_cds[80]? = some xk_80 := rfl
theorem kf_80 : xs_inc 0 xk_80 = true := by decide +kernel
theorem kg_80_0 {i pc : Nat} {q : Instr × List Nat} (h : xk_80_0[i]? = some (pc, q)) : xe_code 80 pc = some q := xs_code kh_80 kf_80 (List.mem_of_getElem? h)
set_option maxRecDepth 100000 in
theorem kh_81 : xe_cds[81]? = some xk_81 := rfl
theorem kf_81 : xs_inc 0 xk_81 = true := by decide +kernel
theorem kg_81_0 {i pc : Nat} {q : Instr × List Nat} (h : xk_81_0[i]? = some (pc, q)) : xe_code 81 pc = some q := xs_code kh_81 kf_81 (List.mem_of_getElem? h)
set_option maxRecDepth 100000 in
theorem kh_82 : xe_cds[82]? = some xk_82 := rfl
theorem kf_82 : xs_inc 0 xk_82 = true := by decide +kernel
theorem kg_82_0 {i pc : Nat} {q : Instr × List Nat} (h : xk_82_0[i]? = some (pc, q)) : xe_code 82 pc = some q := xs_code kh_82 kf_82 (List.mem_of_getElem? h)
set_option maxRecDepth 100000 in
theorem kh_83 : xe_cds[83]? = some xk_83 := rfl
theorem kf_83 : xs_inc 0 xk_83 = true := by decide +kernel
theorem kg_83_0 {i pc : Nat} {q : Instr × List Nat} (h : xk_83_0[i]? = some (pc, q)) : xe_code 83 pc = some q := xs_code kh_83 kf_83 (List.mem_of_getElem? h)
set_option maxRecDepth 100000 in
theorem kh_84 : xe_cds[84]? = some xk_84 := rfl
theorem kf_84 : xs_inc 0 xk_84 = true := by decide +kernel
theorem kg_84_0 {i pc : Nat} {q : Instr × List Nat} (h : xk_84_0[i]? = some (pc, q)) : xe_code 84 pc = some q := xs_code kh_84 kf_84 (List.mem_of_getElem? h)
set_option maxRecDepth 100000 in
theorem kh_85 : xe_cds[85]? = some xk_85 := rfl
theorem kf_85 : xs_inc 0 xk_85 = true := by decide +kernel
theorem kg_85_0 {i pc : Nat} {q : Instr × List Nat} (h : xk_85_0[i]? = some (pc, q)) : xe_code 85 pc = some q := xs_code kh_85 kf_85 (List.mem_of_getElem? h)
set_option maxRecDepth 100000 in
theorem kh_86 : xe_cds[86]? = some xk_86 := rfl
theorem kf_86 : xs_inc 0 xk_86 = true := by decide +kernel
theorem kg_86_0 {i pc : Nat} {q : Instr × List Nat} (h : xk_86_0[i]? = some (pc, q)) : xe_code 86 pc = some q := xs_code kh_86 kf_86 (List.mem_of_getElem? h)
set_option maxRecDepth 100000 in
theorem kh_87 : xe_cds[87]? = some xk_87 := rfl
theorem kf_87 : xs_inc 0 xk_87 = true := by decide +kernel
theorem kg_87_0 {i pc : Nat} {q : Instr × List Nat} (h : xk_87_0[i]? = some (pc, q)) : xe_code 87 pc = some q := xs_code kh_87 kf_87 (List.mem_of_getElem? h)
set_option maxRecDepth 100000 in
theorem kh_88 : xe_cds[88]? = some xk_88 := rfl
theorem kf_88 : xs_inc 0 xk_88 = true := by decide +kernel
theorem kg_88_0 {i pc : Nat} {q : Instr × List Nat} (h : xk_88_0[i]? = some (pc, q)) : xe_code 88 pc = some q := xs_code kh_88 kf_88 (List.mem_append_left _ (List.mem_of_getElem? h))
theorem kg_88_1 {i pc : Nat} {q : Instr × List Nat} (h : xk_88_1[i]? = some (pc, q)) : xe_code 88 pc = some q := xs_code kh_88 kf_88 (List.mem_append_right _ (List.mem_of_getElem? h))
set_option maxRecDepth 100000 in
theorem kh_89 : xe_cds[89]? = some xk_89 := rfl
theorem kf_89 : xs_inc 0 xk_89 = true := by decide +kernel
theorem kg_89_0 {i pc : Nat} {q : Instr × List Nat} (h : xk_89_0[i]? = some (pc, q)) : xe_code 89 pc = some q := xs_code kh_89 kf_89 (List.mem_of_getElem? h)
set_option maxRecDepth 100000 in
theorem kh_90 : xe_cds[90]? = some xk_90 := rfl
theorem kf_90 : xs_inc 0 xk_90 = true := by decide +kernel
theorem kg_90_0 {i pc : Nat} {q : Instr × List Nat} (h : xk_90_0[i]? = some (pc, q)) : xe_code 90 pc = some q := xs_code kh_90 kf_90 (List.mem_of_getElem? h)
set_option maxRecDepth 100000 in
theorem kh_91 : xe_cds[91]? = some xk_91 := rfl
theorem kf_91 : xs_inc 0 xk_91 = true := by decide +kernel
theorem kg_91_0 {i pc : Nat} {q : Instr × List Nat} (h : xk_91_0[i]? = some (pc, q)) : xe_code 91 pc = some q := xs_code kh_91 kf_91 (List.mem_of_getElem? h)
set_option maxRecDepth 100000 in
theorem kh_92 : xe_cds[92]? = some xk_92 := rfl
theorem kf_92 : xs_inc 0 xk_92 = true := by decide +kernel
theorem kg_92_0 {i pc : Nat} {q : Instr × List Nat} (h : xk_92_0[i]? = some (pc, q)) : xe_code 92 pc = some q := xs_code kh_92 kf_92 (List.mem_of_getElem? h)
set_option maxRecDepth 100000 in
theorem kh_93 : xe_cds[93]? = some xk_93 := rfl
theorem kf_93 : xs_inc 0 xk_93 = true := by decide +kernel
theorem kg_93_0 {i pc : Nat} {q : Instr × List Nat} (h : xk_93_0[i]? = some (pc, q)) : xe_code 93 pc = some q := xs_code kh_93 kf_93 (List.mem_of_getElem? h)
set_option maxRecDepth 100000 in
theorem kh_94 : xe_cds[94]? = some xk_94 := rfl
theorem kf_94 : xs_inc 0 xk_94 = true := by decide +kernel
theorem kg_94_0 {i pc : Nat} {q : Instr × List Nat} (h : xk_94_0[i]? = some (pc, q)) : xe_code 94 pc = some q := xs_code kh_94 kf_94 (List.mem_of_getElem? h)
set_option maxRecDepth 100000 in
theorem kh_95 : xe_cds[95]? = some xk_95 := rfl
theorem kf_95 : xs_inc 0 xk_95 = true := by decide +kernel
theorem kg_95_0 {i pc : Nat} {q : Instr × List Nat} (h : xk_95_0[i]? = some (pc, q)) : xe_code 95 pc = some q := xs_code kh_95 kf_95 (List.mem_append_left _ (List.mem_of_getElem? h))
theorem kg_95_1 {i pc : Nat} {q : Instr × List Nat} (h : xk_95_1[i]? = some (pc, q)) : xe_code 95 pc = some q := xs_code kh_95 kf_95 (List.mem_append_right _ (List.mem_of_getElem? h))
set_option maxRecDepth 100000 in
theorem kh_96 : xe_cds[96]? = some xk_96 := rfl
theorem kf_96 : xs_inc 0 xk_96 = true := by decide +kernel
theorem kg_96_0 {i pc : Nat} {q : Instr × List Nat} (h : xk_96_0[i]? = some (pc, q)) : xe_code 96 pc = some q := xs_code kh_96 kf_96 (List.mem_of_getElem? h)
set_option maxRecDepth 100000 in
theorem kh_97 : xe_cds[97]? = some xk_97 := rfl
theorem kf_97 : xs_inc 0 xk_97 = true := by decide +kernel
theorem kg_97_0 {i pc : Nat} {q : Instr × List Nat} (h : xk_97_0[i]? = some (pc, q)) : xe_code 97 pc = some q := xs_code kh_97 kf_97 (List.mem_of_getElem? h)
set_option maxRecDepth 100000 in
theorem kh_98 : xe_cds[98]? = some xk_98 := rfl
theorem kf_98 : xs_inc 0 xk_98 = true := by decide +kernel
theorem kg_98_0 {i pc : Nat} {q : Instr × List Nat} (h : xk_98_0[i]? = some (pc, q)) : xe_code 98 pc = some q := xs_code kh_98 kf_98 (List.mem_append_left _ (List.mem_of_getElem? h))
theorem kg_98_1 {i pc : Nat} {q : Instr × List Nat} (h : xk_98_1[i]? = some (pc, q)) : xe_code 98 pc = some q := xs_code kh_98 kf_98 (List.mem_append_right _ (List.mem_of_getElem? h))
set_option maxRecDepth 100000 in
theorem kh_99 : xe_cds[99]? = some xk_99 := rfl
theorem kf_99 : xs_inc 0 xk_99 = true := by decide +kernel
theorem kg_99_0 {i pc : Nat} {q : Instr × List Nat} (h : xk_99_0[i]? = some (pc, q)) : xe_code 99 pc = some q := xs_code kh_99 kf_99 (List.mem_of_getElem? h)
set_option maxRecDepth 100000 in
theorem kh_100 : xe_cds[100]? = some xk_100 := rfl
theorem kf_100 : xs_inc 0 xk_100 = true := by decide +kernel
theorem kg_100_0 {i pc : Nat} {q : Instr × List Nat} (h : xk_100_0[i]? = some (pc, q)) : xe_code 100 pc = some q := xs_code kh_100 kf_100 (List.mem_of_getElem? h)
set_option maxRecDepth 100000 in
theorem kh_101 : xe_cds[101]? = some xk_101 := rfl
theorem kf_101 : xs_inc 0 xk_101 = true := by decide +kernel
theorem kg_101_0 {i pc : Nat} {q : Instr × List Nat} (h : xk_101_0[i]? = some (pc, q)) : xe_code 101 pc = some q := xs_code kh_101 kf_101 (List.mem_of_getElem? h)
set_option maxRecDepth 100000 in
theorem kh_102 : xe_cds[102]? = some xk_102 := rfl
theorem kf_102 : xs_inc 0 xk_102 = true := by decide +kernel
theorem kg_102_0 {i pc : Nat} {q : Instr × List Nat} (h : xk_102_0[i]? = some (pc, q)) : xe_code 102 pc = some q := xs_code kh_102 kf_102 (List.mem_of_getElem? h)
set_option maxRecDepth 100000 in
theorem kh_103 : xe_cds[103]? = some xk_103 := rfl
theorem kf_103 : xs_inc 0 xk_103 = true := by decide +kernel
theorem kg_103_0 {i pc : Nat} {q : Instr × List Nat} (h : xk_103_0[i]? = some (pc, q)) : xe_code 103 pc = some q := xs_code kh_103 kf_103 (List.mem_append_left _ (List.mem_of_getElem? h))
theorem kg_103_1 {i pc : Nat} {q : Instr × List Nat} (h : xk_103_1[i]? = some (pc, q)) : xe_code 103 pc = some q := xs_code kh_103 kf_103 (List.mem_append_right _ (List.mem_of_getElem? h))
set_option maxRecDepth 100000 in
theorem kh_104 : xe_cds[104]? = some xk_104 := rfl
theorem kf_104 : xs_inc 0 xk_104 = true := by decide +kernel
theorem kg_104_0 {i pc : Nat} {q : Instr × List Nat} (h : xk_104_0[i]? = some (pc, q)) : xe_code 104 pc = some q := xs_code kh_104 kf_104 (List.mem_of_getElem? h)
set_option maxRecDepth 100000 in
theorem kh_105 : xe_cds[105]? = some xk_105 := rfl
theorem kf_105 : xs_inc 0 xk_105 = true := by decide +kernel
theorem kg_105_0 {i pc : Nat} {q : Instr × List Nat} (h : xk_105_0[i]? = some (pc, q)) : xe_code 105 pc = some q := xs_code kh_105 kf_105 (List.mem_of_getElem? h)
set_option maxRecDepth 100000 in
theorem kh_106 : xe_cds[106]? = some xk_106 := rfl
theorem kf_106 : xs_inc 0 xk_106 = true := by decide +kernel
theorem kg_106_0 {i pc : Nat} {q : Instr × List Nat} (h : xk_106_0[i]? = some (pc, q)) : xe_code 106 pc = some q := xs_code kh_106 kf_106 (List.mem_of_getElem? h)
set_option maxRecDepth 100000 in
theorem kh_107 : xe_cds[107]? = some xk_107 := rfl
theorem kf_107 : xs_inc 0 xk_107 = true := by decide +kernel
theorem kg_107_0 {i pc : Nat} {q : Instr × List Nat} (h : xk_107_0[i]? = some (pc, q)) : xe_code 107 pc = some q := xs_code kh_107 kf_107 (List.mem_of_getElem? h)
set_option maxRecDepth 100000 in
theorem kh_108 : xe_cds[108]? = some xk_108 := rfl
theorem kf_108 : xs_inc 0 xk_108 = true := by decide +kernel
theorem kg_108_0 {i pc : Nat} {q : Instr × List Nat} (h : xk_108_0[i]? = some (pc, q)) : xe_code 108 pc = some q := xs_code kh_108 kf_108 (List.mem_of_getElem? h)
set_option maxRecDepth 100000 in
theorem kh_109 : xe_cds[109]? = some xk_109 := rfl
theorem kf_109 : xs_inc 0 xk_109 = true := by decide +kernel
theorem kg_109_0 {i pc : Nat} {q : Instr × List Nat} (h : xk_109_0[i]? = some (pc, q)) : xe_code 109 pc = some q := xs_code kh_109 kf_109 (List.mem_of_getElem? h)
set_option maxRecDepth 100000 in
theorem kh_110 : xe_cds[110]? = some xk_110 := rfl
theorem kf_110 : xs_inc 0 xk_110 = true := by decide +kernel
theorem kg_110_0 {i pc : Nat} {q : Instr × List Nat} (h : xk_110_0[i]? = some (pc, q)) : xe_code 110 pc = some q := xs_code kh_110 kf_110 (List.mem_of_getElem? h)
set_option maxRecDepth 100000 in
theorem kh_111 : xe_cds[111]? = some xk_111 := rfl
theorem kf_111 : xs_inc 0 xk_111 = true := by decide +kernel
theorem kg_111_0 {i pc : Nat} {q : Instr × List Nat} (h : xk_111_0[i]? = some (pc, q)) : xe_code 111 pc = some q := xs_code kh_111 kf_111 (List.mem_of_getElem? h)
set_option maxRecDepth 100000 in
theorem kh_112 : xe_cds[112]? = some xk_112 := rfl
theorem kf_112 : xs_inc 0 xk_112 = true := by decide +kernel
theorem kg_112_0 {i pc : Nat} {q : Instr × List Nat} (h : xk_112_0[i]? = some (pc, q)) : xe_code 112 pc = some q := xs_code kh_112 kf_112 (List.mem_of_getElem? h)
set_option maxRecDepth 100000 in
theorem kh_113 : xe_cds[113]? = some xk_113 := rfl
theorem kf_113 : xs_inc 0 xk_113 = true := by decide +kernel
theorem kg_113_0 {i pc : Nat} {q : Instr × List Nat} (h : xk_113_0[i]? = some (pc, q)) : xe_code 113 pc = some q := xs_code kh_113 kf_113 (List.mem_append_left _ (List.mem_of_getElem? h))
theorem kg_113_1 {i pc : Nat} {q : Instr × List Nat} (h : xk_113_1[i]? = some (pc, q)) : xe_code 113 pc = some q := xs_code kh_113 kf_113 (List.mem_append_right _ (List.mem_of_getElem? h))
set_option maxRecDepth 100000 in
theorem kh_114 : xe_cds[114]? = some xk_114 := rfl
theorem kf_114 : xs_inc 0 xk_114 = true := by decide +kernel
theorem kg_114_0 {i pc : Nat} {q : Instr × List Nat} (h : xk_114_0[i]? = some (pc, q)) : xe_code 114 pc = some q := xs_code kh_114 kf_114 (List.mem_of_getElem? h)
set_option maxRecDepth 100000 in
theorem kh_115 : xe_cds[115]? = some xk_115 := rfl
theorem kf_115 : xs_inc 0 xk_115 = true := by decide +kernel
theorem kg_115_0 {i pc : Nat} {q : Instr × List Nat} (h : xk_115_0[i]? = some (pc, q)) : xe_code 115 pc = some q := xs_code kh_115 kf_115 (List.mem_of_getElem? h)
set_option maxRecDepth 100000 in
theorem kh_116 : xe_cds[116]? = some xk_116 := rfl
theorem kf_116 : xs_inc 0 xk_116 = true := by decide +kernel
theorem kg_116_0 {i pc : Nat} {q : Instr × List Nat} (h : xk_116_0[i]? = some (pc, q)) : xe_code 116 pc = some q := xs_code kh_116 kf_116 (List.mem_append_left _ (List.mem_of_getElem? h))
theorem kg_116_1 {i pc : Nat} {q : Instr × List Nat} (h : xk_116_1[i]? = some (pc, q)) : xe_code 116 pc = some q := xs_code kh_116 kf_116 (List.mem_append_right _ (List.mem_of_getElem? h))
set_option maxRecDepth 100000 in
theorem kh_117 : xe_cds[117]? = some xk_117 := rfl
theorem kf_117 : xs_inc 0 xk_117 = true := by decide +kernel
theorem kg_117_0 {i pc : Nat} {q : Instr × List Nat} (h : xk_117_0[i]? = some (pc, q)) : xe_code 117 pc = some q := xs_code kh_117 kf_117 (List.mem_of_getElem? h)
set_option maxRecDepth 100000 in
theorem kh_118 : xe_cds[118]? = some xk_118 := rfl
theorem kf_118 : xs_inc 0 xk_118 = true := by decide +kernel
theorem kg_118_0 {i pc : Nat} {q : Instr × List Nat} (h : xk_118_0[i]? = some (pc, q)) : xe_code 118 pc = some q := xs_code kh_118 kf_118 (List.mem_of_getElem? h)
set_option maxRecDepth 100000 in
theorem kh_119 : xe_cds[119]? = some xk_119 := rfl
theorem kf_119 : xs_inc 0 xk_119 = true := by decide +kernel
theorem kg_119_0 {i pc : Nat} {q : Instr × List Nat} (h : xk_119_0[i]? = some (pc, q)) : xe_code 119 pc = some q := xs_code kh_119 kf_119 (List.mem_of_getElem? h)
set_option maxRecDepth 100000 in
theorem kh_120 : xe_cds[120]? = some xk_120 := rfl
theorem kf_120 : xs_inc 0 xk_120 = true := by decide +kernel
theorem kg_120_0 {i pc : Nat} {q : Instr × List Nat} (h : xk_120_0[i]? = some (pc, q)) : xe_code 120 pc = some q := xs_code kh_120 kf_120 (List.mem_of_getElem? h)
set_option maxRecDepth 100000 in
theorem kh_121 : xe_cds[121]? = some xk_121 := rfl
theorem kf_121 : xs_inc 0 xk_121 = true := by decide +kernel
theorem kg_121_0 {i pc : Nat} {q : Instr × List Nat} (h : xk_121_0[i]? = some (pc, q)) : xe_code 121 pc = some q := xs_code kh_121 kf_121 (List.mem_of_getElem? h)
set_option maxRecDepth 100000 in
theorem kh_122 : xe_cds[122]? = some xk_122 := rfl
theorem kf_122 : xs_inc 0 xk_122 = true := by decide +kernel
theorem kg_122_0 {i pc : Nat} {q : Instr × List Nat} (h : xk_122_0[i]? = some (pc, q)) : xe_code 122 pc = some q := xs_code kh_122 kf_122 (List.mem_of_getElem? h)
set_option maxRecDepth 100000 in
theorem kh_123 : xe_cds[123]? = some xk_123 := rfl
theorem kf_123 : xs_inc 0 xk_123 = true := by decide +kernel
theorem kg_123_0 {i pc : Nat} {q : Instr × List Nat} (h : xk_123_0[i]? = some (pc, q)) : xe_code 123 pc = some q := xs_code kh_123 kf_123 (List.mem_of_getElem? h)
set_option maxRecDepth 100000 in
theorem kh_124 : xe_cds[124]? = some xk_124 := rfl
theorem kf_124 : xs_inc 0 xk_124 = true := by decide +kernel
theorem kg_124_0 {i pc : Nat} {q : Instr × List Nat} (h : xk_124_0[i]? = some (pc, q)) : xe_code 124 pc = some q := xs_code kh_124 kf_124 (List.mem_of_getElem? h)
set_option maxRecDepth 100000 in
theorem kh_125 : xe_cds[125]? = some xk_125 := rfl
theorem kf_125 : xs_inc 0 xk_125 = true := by decide +kernel
theorem kg_125_0 {i pc : Nat} {q : Instr × List Nat} (h : xk_125_0[i]? = some (pc, q)) : xe_code 125 pc = some q := xs_code kh_125 kf_125 (List.mem_of_getElem? h)
set_option maxRecDepth 100000 in
theorem kh_126 : xe_cds[126]? = some xk_126 := rfl
theorem kf_126 : xs_inc 0 xk_126 = true := by decide +kernel
theorem kg_126_0 {i pc : Nat} {q : Instr × List Nat} (h : xk_126_0[i]? = some (pc, q)) : xe_code 126 pc = some q := xs_code kh_126 kf_126 (List.mem_of_getElem? h)
set_option maxRecDepth 100000 in
theorem kh_127 : xe_cds[127]? = some xk_127 := rfl
theorem kf_127 : xs_inc 0 xk_127 = true := by decide +kernel
theorem kg_127_0 {i pc : Nat} {q : Instr × List Nat} (h : xk_127_0[i]? = some (pc, q)) : xe_code 127 pc = some q := xs_code kh_127 kf_127 (List.mem_of_getElem? h)
set_option maxRecDepth 100000 in
theorem kh_128 : xe_cds[128]? = some xk_128 := rfl
theorem kf_128 : xs_inc 0 xk_128 = true := by decide +kernel
theorem kg_128_0 {i pc : Nat} {q : Instr × List Nat} (h : xk_128_0[i]? = some (pc, q)) : xe_code 128 pc = some q := xs_code kh_128 kf_128 (List.mem_append_left _ (List.mem_of_getElem? h))
theorem kg_128_1 {i pc : Nat} {q : Instr × List Nat} (h : xk_128_1[i]? = some (pc, q)) : xe_code 128 pc = some q := xs_code kh_128 kf_128 (List.mem_append_right _ (List.mem_of_getElem? h))
set_option maxRecDepth 100000 in
theorem kh_129 : xe_cds[129]? = some xk_129 := rfl
theorem kf_129 : xs_inc 0 xk_129 = true := by decide +kernel
theorem kg_129_0 {i pc : Nat} {q : Instr × List Nat} (h : xk_129_0[i]? = some (pc, q)) : xe_code 129 pc = some q := xs_code kh_129 kf_129 (List.mem_of_getElem? h)
set_option maxRecDepth 100000 in
theorem kh_130 : xe_cds[130]? = some xk_130 := rfl
theorem kf_130 : xs_inc 0 xk_130 = true := by decide +kernel
theorem kg_130_0 {i pc : Nat} {q : Instr × List Nat} (h : xk_130_0[i]? = some (pc, q)) : xe_code 130 pc = some q := xs_code kh_130 kf_130 (List.mem_append_left _ (List.mem_of_getElem? h))
theorem kg_130_1 {i pc : Nat} {q : Instr × List Nat} (h : xk_130_1[i]? = some (pc, q)) : xe_code 130 pc = some q := xs_code kh_130 kf_130 (List.mem_append_right _ (List.mem_of_getElem? h))
set_option maxRecDepth 100000 in
theorem kh_131 : xe_cds[131]? = some xk_131 := rfl
theorem kf_131 : xs_inc 0 xk_131 = true := by decide +kernel
theorem kg_131_0 {i pc : Nat} {q : Instr × List Nat} (h : xk_131_0[i]? = some (pc, q)) : xe_code 131 pc = some q := xs_code kh_131 kf_131 (List.mem_of_getElem? h)
set_option maxRecDepth 100000 in
theorem kh_132 : xe_cds[132]? = some xk_132 := rfl
theorem kf_132 : xs_inc 0 xk_132 = true := by decide +kernel
theorem kg_132_0 {i pc : Nat} {q : Instr × List Nat} (h : xk_132_0[i]? = some (pc, q)) : xe_code 132 pc = some q := xs_code kh_132 kf_132 (List.mem_of_getElem? h)
set_option maxRecDepth 100000 in
theorem kh_133 : xe_cds[133]? = some xk_133 := rfl
theorem kf_133 : xs_inc 0 xk_133 = true := by decide +kernel
theorem kg_133_0 {i pc : Nat} {q : Instr × List Nat} (h : xk_133_0[i]? = some (pc, q)) : xe_code 133 pc = some q := xs_code kh_133 kf_133 (List.mem_of_getElem? h)
set_option maxRecDepth 100000 in
theorem kh_134 : xe_cds[134]? = some xk_134 := rfl
theorem kf_134 : xs_inc 0 xk_134 = true := by decide +kernel
theorem kg_134_0 {i pc : Nat} {q : Instr × List Nat} (h : xk_134_0[i]? = some (pc, q)) : xe_code 134 pc = some q := xs_code kh_134 kf_134 (List.mem_of_getElem? h)
set_option maxRecDepth 100000 in
theorem kh_135 : xe_cds[135]? = some xk_135 := rfl
theorem kf_135 : xs_inc 0 xk_135 = true := by decide +kernel
theorem kg_135_0 {i pc : Nat} {q : Instr × List Nat} (h : xk_135_0[i]? = some (pc, q)) : xe_code 135 pc = some q := xs_code kh_135 kf_135 (List.mem_of_getElem? h)
set_option maxRecDepth 100000 in
theorem kh_136 : xe_cds[136]? = some xk_136 := rfl
theorem kf_136 : xs_inc 0 xk_136 = true := by decide +kernel
theorem kg_136_0 {i pc : Nat} {q : Instr × List Nat} (h : xk_136_0[i]? = some (pc, q)) : xe_code 136 pc = some q := xs_code kh_136 kf_136 (List.mem_of_getElem? h)
set_option maxRecDepth 100000 in
theorem kh_137 : xe_cds[137]? = some xk_137 := rfl
theorem kf_137 : xs_inc 0 xk_137 = true := by decide +kernel
theorem kg_137_0 {i pc : Nat} {q : Instr × List Nat} (h : xk_137_0[i]? = some (pc, q)) : xe_code 137 pc = some q := xs_code kh_137 kf_137 (List.mem_of_getElem? h)
set_option maxRecDepth 100000 in
theorem kh_138 : xe_cds[138]? = some xk_138 := rfl
theorem kf_138 : xs_inc 0 xk_138 = true := by decide +kernel
theorem kg_138_0 {i pc : Nat} {q : Instr × List Nat} (h : xk_138_0[i]? = some (pc, q)) : xe_code 138 pc = some q := xs_code kh_138 kf_138 (List.mem_of_getElem? h)
set_option maxRecDepth 100000 in
theorem kh_139 : xe_cds[139]? = some xk_139 := rfl
theorem kf_139 : xs_inc 0 xk_139 = true := by decide +kernel
theorem kg_139_0 {i pc : Nat} {q : Instr × List Nat} (h : xk_139_0[i]? = some (pc, q)) : xe_code 139 pc = some q := xs_code kh_139 kf_139 (List.mem_of_getElem? h)
set_option maxRecDepth 100000 in
theorem kh_140 : xe_cds[140]? = some xk_140 := rfl
theorem kf_140 : xs_inc 0 xk_140 = true := by decide +kernel
theorem kg_140_0 {i pc : Nat} {q : Instr × List Nat} (h : xk_140_0[i]? = some (pc, q)) : xe_code 140 pc = some q := xs_code kh_140 kf_140 (List.mem_of_getElem? h)
set_option maxRecDepth 100000 in
theorem kh_141 : xe_cds[141]? = some xk_141 := rfl
theorem kf_141 : xs_inc 0 xk_141 = true := by decide +kernel
theorem kg_141_0 {i pc : Nat} {q : Instr × List Nat} (h : xk_141_0[i]? = some (pc, q)) : xe_code 141 pc = some q := xs_code kh_141 kf_141 (List.mem_of_getElem? h)
set_option maxRecDepth 100000 in
theorem kh_142 : xe_cds[142]? = some xk_142 := rfl
theorem kf_142 : xs_inc 0 xk_142 = true := by decide +kernel
theorem kg_142_0 {i pc : Nat} {q : Instr × List Nat} (h : xk_142_0[i]? = some (pc, q)) : xe_code 142 pc = some q := xs_code kh_142 kf_142 (List.mem_of_getElem? h)
set_option maxRecDepth 100000 in
theorem kh_143 : xe_cds[143]? = some xk_143 := rfl
theorem kf_143 : xs_inc 0 xk_143 = true := by decide +kernel
theorem kg_143_0 {i pc : Nat} {q : Instr × List Nat} (h : xk_143_0[i]? = some (pc, q)) : xe_code 143 pc = some q := xs_code kh_143 kf_143 (List.mem_of_getElem? h)
set_option maxRecDepth 100000 in
theorem kh_144 : xe_cds[144]? = some xk_144 := rfl
theorem kf_144 : xs_inc 0 xk_144 = true := by decide +kernel
theorem kg_144_0 {i pc : Nat} {q : Instr × List Nat} (h : xk_144_0[i]? = some (pc, q)) : xe_code 144 pc = some q := xs_code kh_144 kf_144 (List.mem_of_getElem? h)
set_option maxRecDepth 100000 in
theorem kh_145 : xe_cds[145]? = some xk_145 := rfl
theorem kf_145 : xs_inc 0 xk_145 = true := by decide +kernel
theorem kg_145_0 {i pc : Nat} {q : Instr × List Nat} (h : xk_145_0[i]? = some (pc, q)) : xe_code 145 pc = some q := xs_code kh_145 kf_145 (List.mem_of_getElem? h)
set_option maxRecDepth 100000 in
theorem kh_146 : xe_cds[146]? = some xk_146 := rfl
theorem kf_146 : xs_inc 0 xk_146 = true := by decide +kernel
theorem kg_146_0 {i pc : Nat} {q : Instr × List Nat} (h : xk_146_0[i]? = some (pc, q)) : xe_code 146 pc = some q := xs_code kh_146 kf_146 (List.mem_append_left _ (List.mem_of_getElem? h))
theorem kg_146_1 {i pc : Nat} {q : Instr × List Nat} (h : xk_146_1[i]? = some (pc, q)) : xe_code 146 pc = some q := xs_code kh_146 kf_146 (List.mem_append_right _ (List.mem_of_getElem? h))
set_option maxRecDepth 100000 in
theorem kh_147 : xe_cds[147]? = some xk_147 := rfl
theorem kf_147 : xs_inc 0 xk_147 = true := by decide +kernel
theorem kg_147_0 {i pc : Nat} {q : Instr × List Nat} (h : xk_147_0[i]? = some (pc, q)) : xe_code 147 pc = some q := xs_code kh_147 kf_147 (List.mem_append_left _ (List.mem_of_getElem? h))
theorem kg_147_1 {i pc : Nat} {q : Instr × List Nat} (h : xk_147_1[i]? = some (pc, q)) : xe_code 147 pc = some q := xs_code kh_147 kf_147 (List.mem_append_right _ (List.mem_of_getElem? h))
set_option maxRecDepth 100000 in
theorem kh_148 : xe_cds[148]? = some xk_148 := rfl
theorem kf_148 : xs_inc 0 xk_148 = true := by decide +kernel
theorem kg_148_0 {i pc : Nat} {q : Instr × List Nat} (h : xk_148_0[i]? = some (pc, q)) : xe_code 148 pc = some q := xs_code kh_148 kf_148 (List.mem_of_getElem? h)
set_option maxRecDepth 100000 in
theorem kh_149 : xe_cds[149]? = some xk_149 := rfl
theorem kf_149 : xs_inc 0 xk_149 = true := by decide +kernel
theorem kg_149_0 {i pc : Nat} {q : Instr × List Nat} (h : xk_149_0[i]? = some (pc, q)) : xe_code 149 pc = some q := xs_code kh_149 kf_149 (List.mem_of_getElem? h)
set_option maxRecDepth 100000 in
theorem kh_150 : xe_cds[150]? = some xk_150 := rfl
theorem kf_150 : xs_inc 0 xk_150 = true := by decide +kernel
theorem kg_150_0 {i pc : Nat} {q : Instr × List Nat} (h : xk_150_0[i]? = some (pc, q)) : xe_code 150 pc = some q := xs_code kh_150 kf_150 (List.mem_of_getElem? h)
set_option maxRecDepth 100000 in
theorem kh_151 : xe_cds[151]? = some xk_151 := rfl
theorem kf_151 : xs_inc 0 xk_151 = true := by decide +kernel
theorem kg_151_0 {i pc : Nat} {q : Instr × List Nat} (h : xk_151_0[i]? = some (pc, q)) : xe_code 151 pc = some q := xs_code kh_151 kf_151 (List.mem_of_getElem? h)
set_option maxRecDepth 100000 in
theorem kh_152 : xe_cds[152]? = some xk_152 := rfl
theorem kf_152 : xs_inc 0 xk_152 = true := by decide +kernel
theorem kg_152_0 {i pc : Nat} {q : Instr × List Nat} (h : xk_152_0[i]? = some (pc, q)) : xe_code 152 pc = some q := xs_code kh_152 kf_152 (List.mem_of_getElem? h)
set_option maxRecDepth 100000 in
theorem kh_153 : xe_cds[153]? = some xk_153 := rfl
theorem kf_153 : xs_inc 0 xk_153 = true := by decide +kernel
theorem kg_153_0 {i pc : Nat} {q : Instr × List Nat} (h : xk_153_0[i]? = some (pc, q)) : xe_code 153 pc = some q := xs_code kh_153 kf_153 (List.mem_of_getElem? h)
set_option maxRecDepth 100000 in
theorem kh_154 : xe_cds[154]? = some xk_154 := rfl
theorem kf_154 : xs_inc 0 xk_154 = true := by decide +kernel
theorem kg_154_0 {i pc : Nat} {q : Instr × List Nat} (h : xk_154_0[i]? = some (pc, q)) : xe_code 154 pc = some q := xs_code kh_154 kf_154 (List.mem_of_getElem? h)
set_option maxRecDepth 100000 in
theorem kh_155 : xe_cds[155]? = some xk_155 := rfl
theorem kf_155 : xs_inc 0 xk_155 = true := by decide +kernel
theorem kg_155_0 {i pc : Nat} {q : Instr × List Nat} (h : xk_155_0[i]? = some (pc, q)) : xe_code 155 pc = some q := xs_code kh_155 kf_155 (List.mem_of_getElem? h)
set_option maxRecDepth 100000 in
theorem kh_156 : xe_cds[156]? = some xk_156 := rfl
theorem kf_156 : xs_inc 0 xk_156 = true := by decide +kernel
theorem kg_156_0 {i pc : Nat} {q : Instr × List Nat} (h : xk_156_0[i]? = some (pc, q)) : xe_code 156 pc = some q := xs_code kh_156 kf_156 (List.mem_of_getElem? h)
set_option maxRecDepth 100000 in
theorem kh_157 : xe_cds[157]? = some xk_157 := rfl
theorem kf_157 : xs_inc 0 xk_157 = true := by decide +kernel
theorem kg_157_0 {i pc : Nat} {q : Instr × List Nat} (h : xk_157_0[i]? = some (pc, q)) : xe_code 157 pc = some q := xs_code kh_157 kf_157 (List.mem_of_getElem? h)
set_option maxRecDepth 100000 in
theorem kh_158 : xe_cds[158]? = some xk_158 := rfl
theorem kf_158 : xs_inc 0 xk_158 = true := by decide +kernel
theorem kg_158_0 {i pc : Nat} {q : Instr × List Nat} (h : xk_158_0[i]? = some (pc, q)) : xe_code 158 pc = some q := xs_code kh_158 kf_158 (List.mem_of_getElem? h)
set_option maxRecDepth 100000 in
theorem kh_159 : xe_cds[159]? = some xk_159 := rfl
theorem kf_159 : xs_inc 0 xk_159 = true := by decide +kernel
theorem kg_159_0 {i pc : Nat} {q : Instr × List Nat} (h : xk_159_0[i]? = some (pc, q)) : xe_code 159 pc = some q := xs_code kh_159 kf_159 (List.mem_append_left _ (List.mem_of_getElem? h))
theorem kg_159_1 {i pc : Nat} {q : Instr × List Nat} (h : xk_159_1[i]? = some (pc, q)) : xe_code 159 pc = some q := xs_code kh_159 kf_159 (List.mem_append_right _ (List.mem_of_getElem? h))
set_option maxRecDepth 100000 in
theorem kh_160 : xe_cds[160]? = some xk_160 := rfl
theorem kf_160 : xs_inc 0 xk_160 = true := by decide +kernel
theorem kg_160_0 {i pc : Nat} {q : Instr × List Nat} (h : xk_160_0[i]? = some (pc, q)) : xe_code 160 pc = some q := xs_code kh_160 kf_160 (List.mem_of_getElem? h)
set_option maxRecDepth 100000 in
theorem kh_161 : xe_cds[161]? = some xk_161 := rfl
theorem kf_161 : xs_inc 0 xk_161 = true := by decide +kernel
theorem kg_161_0 {i pc : Nat} {q : Instr × List Nat} (h : xk_161_0[i]? = some (pc, q)) : xe_code 161 pc = some q := xs_code kh_161 kf_161 (List.mem_of_getElem? h)
set_option maxRecDepth 100000 in
theorem kh_162 : xe_cds[162]? = some xk_162 := rfl
theorem kf_162 : xs_inc 0 xk_162 = true := by decide +kernel
theorem kg_162_0 {i pc : Nat} {q : Instr × List Nat} (h : xk_162_0[i]? = some (pc, q)) : xe_code 162 pc = some q := xs_code kh_162 kf_162 (List.mem_append_left _ (List.mem_of_getElem? h))
theorem kg_162_1 {i pc : Nat} {q : Instr × List Nat} (h : xk_162_1[i]? = some (pc, q)) : xe_code 162 pc = some q := xs_code kh_162 kf_162 (List.mem_append_right _ (List.mem_append_left _ (List.mem_of_getElem? h)))
theorem kg_162_2 {i pc : Nat} {q : Instr × List Nat} (h : xk_162_2[i]? = some (pc, q)) : xe_code 162 pc = some q := xs_code kh_162 kf_162 (List.mem_append_right _ (List.mem_append_right _ (List.mem_of_getElem? h)))
set_option maxRecDepth 100000 in
theorem kh_163 : xe_cds[163]? = some xk_163 := rfl
theorem kf_163 : xs_inc 0 xk_163 = true := by decide +kernel
theorem kg_163_0 {i pc : Nat} {q : Instr × List Nat} (h : xk_163_0[i]? = some (pc, q)) : xe_code 163 pc = some q := xs_code kh_163 kf_163 (List.mem_append_left _ (List.mem_of_getElem? h))
theorem kg_163_1 {i pc : Nat} {q : Instr × List Nat} (h : xk_163_1[i]? = some (pc, q)) : xe_code 163 pc = some q := xs_code kh_163 kf_163 (List.mem_append_right _ (List.mem_of_getElem? h))
set_option maxRecDepth 100000 in
theorem kh_164 : xe_cds[164]? = some xk_164 := rfl
theorem kf_164 : xs_inc 0 xk_164 = true := by decide +kernel
theorem kg_164_0 {i pc : Nat} {q : Instr × List Nat} (h : xk_164_0[i]? = some (pc, q)) : xe_code 164 pc = some q := xs_code kh_164 kf_164 (List.mem_of_getElem? h)
set_option maxRecDepth 100000 in
theorem kh_165 : xe_cds[165]? = some xk_165 := rfl
theorem kf_165 : xs_inc 0 xk_165 = true := by decide +kernel
theorem kg_165_0 {i pc : Nat} {q : Instr × List Nat} (h : xk_165_0[i]? = some (pc, q)) : xe_code 165 pc = some q := xs_code kh_165 kf_165 (List.mem_append_left _ (List.mem_of_getElem? h))
theorem kg_165_1 {i pc : Nat} {q : Instr × List Nat} (h : xk_165_1[i]? = some (pc, q)) : xe_code 165 pc = some q := xs_code kh_165 kf_165 (List.mem_append_right _ (List.mem_of_getElem? h))
set_option maxRecDepth 100000 in
theorem kh_166 : xe_cds[166]? = some xk_166 := rfl
theorem kf_166 : xs_inc 0 xk_166 = true := by decide +kernel
theorem kg_166_0 {i pc : Nat} {q : Instr × List Nat} (h : xk_166_0[i]? = some (pc, q)) : xe_code 166 pc = some q := xs_code kh_166 kf_166 (List.mem_append_left _ (List.mem_of_getElem? h))
theorem kg_166_1 {i pc : Nat} {q : Instr × List Nat} (h : xk_166_1[i]? = some (pc, q)) : xe_code 166 pc = some q := xs_code kh_166 kf_166 (List.mem_append_right _ (List.mem_of_getElem? h))
set_option maxRecDepth 100000 in
theorem kh_167 : xe_cds[167]? = some xk_167 := rfl
theorem kf_167 : xs_inc 0 xk_167 = true := by decide +kernel
theorem kg_167_0 {i pc : Nat} {q : Instr × List Nat} (h : xk_167_0[i]? = some (pc, q)) : xe_code 167 pc = some q := xs_code kh_167 kf_167 (List.mem_of_getElem? h)
set_option maxRecDepth 100000 in
theorem kh_168 : xe_cds[168]? = some xk_168 := rfl
theorem kf_168 : xs_inc 0 xk_168 = true := by decide +kernel
theorem kg_168_0 {i pc : Nat} {q : Instr × List Nat} (h : xk_168_0[i]? = some (pc, q)) : xe_code 168 pc = some q := xs_code kh_168 kf_168 (List.mem_of_getElem? h)
set_option maxRecDepth 100000 in
theorem kh_169 : xe_cds[169]? = some xk_169 := rfl
theorem kf_169 : xs_inc 0 xk_169 = true := by decide +kernel
theorem kg_169_0 {i pc : Nat} {q : Instr × List Nat} (h : xk_169_0[i]? = some (pc, q)) : xe_code 169 pc = some q := xs_code kh_169 kf_169 (List.mem_of_getElem? h)
set_option maxRecDepth 100000 in
theorem kh_170 : xe_cds[170]? = some xk_170 := rfl
theorem kf_170 : xs_inc 0 xk_170 = true := by decide +kernel
theorem kg_170_0 {i pc : Nat} {q : Instr × List Nat} (h : xk_170_0[i]? = some (pc, q)) : xe_code 170 pc = some q := xs_code kh_170 kf_170 (List.mem_of_getElem? h)
set_option maxRecDepth 100000 in
theorem kh_171 : xe_cds[171]? = some xk_171 := rfl
theorem kf_171 : xs_inc 0 xk_171 = true := by decide +kernel
theorem kg_171_0 {i pc : Nat} {q : Instr × List Nat} (h : xk_171_0[i]? = some (pc, q)) : xe_code 171 pc = some q := xs_code kh_171 kf_171 (List.mem_of_getElem? h)
set_option maxRecDepth 100000 in
theorem kh_172 : xe_cds[172]? = some xk_172 := rfl
theorem kf_172 : xs_inc 0 xk_172 = true := by decide +kernel
theorem kg_172_0 {i pc : Nat} {q : Instr × List Nat} (h : xk_172_0[i]? = some (pc, q)) : xe_code 172 pc = some q := xs_code kh_172 kf_172 (List.mem_of_getElem? h)
set_option maxRecDepth 100000 in
theorem kh_173 : xe_cds[173]? = some xk_173 := rfl
theorem kf_173 : xs_inc 0 xk_173 = true := by decide +kernel
theorem kg_173_0 {i pc : Nat} {q : Instr × List Nat} (h : xk_173_0[i]? = some (pc, q)) : xe_code 173 pc = some q := xs_code kh_173 kf_173 (List.mem_of_getElem? h)
set_option maxRecDepth 100000 in
theorem kh_174 : xe_cds[174]? = some xk_174 := rfl
theorem kf_174 : xs_inc 0 xk_174 = true := by decide +kernel
theorem kg_174_0 {i pc : Nat} {q : Instr × List Nat} (h : xk_174_0[i]? = some (pc, q)) : xe_code 174 pc = some q := xs_code kh_174 kf_174 (List.mem_of_getElem? h)
set_option maxRecDepth 100000 in
theorem kh_175 : xe_cds[175]? = some xk_175 := rfl
theorem kf_175 : xs_inc 0 xk_175 = true := by decide +kernel
theorem kg_175_0 {i pc : Nat} {q : Instr × List Nat} (h : xk_175_0[i]? = some (pc, q)) : xe_code 175 pc = some q := xs_code kh_175 kf_175 (List.mem_of_getElem? h)
set_option maxRecDepth 100000 in
theorem kh_176 : xe_cds[176]? = some xk_176 := rfl
theorem kf_176 : xs_inc 0 xk_176 = true := by decide +kernel
theorem kg_176_0 {i pc : Nat} {q : Instr × List Nat} (h : xk_176_0[i]? = some (pc, q)) : xe_code 176 pc = some q := xs_code kh_176 kf_176 (List.mem_append_left _ (List.mem_of_getElem? h))
theorem kg_176_1 {i pc : Nat} {q : Instr × List Nat} (h : xk_176_1[i]? = some (pc, q)) : xe_code 176 pc = some q := xs_code kh_176 kf_176 (List.mem_append_right _ (List.mem_of_getElem? h))
set_option maxRecDepth 100000 in
theorem kh_177 : xe_cds[177]? = some xk_177 := rfl
theorem kf_177 : xs_inc 0 xk_177 = true := by decide +kernel
theorem kg_177_0 {i pc : Nat} {q : Instr × List Nat} (h : xk_177_0[i]? = some (pc, q)) : xe_code 177 pc = some q := xs_code kh_177 kf_177 (List.mem_of_getElem? h)
set_option maxRecDepth 100000 in
theorem kh_178 : xe_cds[178]? = some xk_178 := rfl
theorem kf_178 : xs_inc 0 xk_178 = true := by decide +kernel
theorem kg_178_0 {i pc : Nat} {q : Instr × List Nat} (h : xk_178_0[i]? = some (pc, q)) : xe_code 178 pc = some q := xs_code kh_178 kf_178 (List.mem_of_getElem? h)
set_option maxRecDepth 100000 in
theorem kh_179 : xe_cds[179]? = some xk_179 := rfl
theorem kf_179 : xs_inc 0 xk_179 = true := by decide +kernel
theorem kg_179_0 {i pc : Nat} {q : Instr × List Nat} (h : xk_179_0[i]? = some (pc, q)) : xe_code 179 pc = some q := xs_code kh_179 kf_179 (List.mem_of_getElem? h)
set_option maxRecDepth 100000 in
theorem kh_180 : xe_cds[180]? = some xk_180 := rfl
theorem kf_180 : xs_inc 0 xk_180 = true := by decide +kernel
theorem kg_180_0 {i pc : Nat} {q : Instr × List Nat} (h : xk_180_0[i]? = some (pc, q)) : xe_code 180 pc = some q := xs_code kh_180 kf_180 (List.mem_of_getElem? h)
set_option maxRecDepth 100000 in
theorem kh_181 : xe_cds[181]? = some xk_181 := rfl
theorem kf_181 : xs_inc 0 xk_181 = true := by decide +kernel
theorem kg_181_0 {i pc : Nat} {q : Instr × List Nat} (h : xk_181_0[i]? = some (pc, q)) : xe_code 181 pc = some q := xs_code kh_181 kf_181 (List.mem_of_getElem? h)
set_option maxRecDepth 100000 in
theorem kh_182 : xe_cds[182]? = some xk_182 := rfl
theorem kf_182 : xs_inc 0 xk_182 = true := by decide +kernel
theorem kg_182_0 {i pc : Nat} {q : Instr × List Nat} (h : xk_182_0[i]? = some (pc, q)) : xe_code 182 pc = some q := xs_code kh_182 kf_182 (List.mem_append_left _ (List.mem_of_getElem? h))
theorem kg_182_1 {i pc : Nat} {q : Instr × List Nat} (h : xk_182_1[i]? = some (pc, q)) : xe_code 182 pc = some q := xs_code kh_182 kf_182 (List.mem_append_right _ (List.mem_of_getElem? h))
set_option maxRecDepth 100000 in
theorem kh_183 : xe_cds[183]? = some xk_183 := rfl
theorem kf_183 : xs_inc 0 xk_183 = true := by decide +kernel
theorem kg_183_0 {i pc : Nat} {q : Instr × List Nat} (h : xk_183_0[i]? = some (pc, q)) : xe_code 183 pc = some q := xs_code kh_183 kf_183 (List.mem_of_getElem? h)
set_option maxRecDepth 100000 in
theorem kh_184 : xe_cds[184]? = some xk_184 := rfl
theorem kf_184 : xs_inc 0 xk_184 = true := by decide +kernel
theorem kg_184_0 {i pc : Nat} {q : Instr × List Nat} (h : xk_184_0[i]? = some (pc, q)) : xe_code 184 pc = some q := xs_code kh_184 kf_184 (List.mem_of_getElem? h)
set_option maxRecDepth 100000 in
theorem kh_185 : xe_cds[185]? = some xk_185 := rfl
theorem kf_185 : xs_inc 0 xk_185 = true := by decide +kernel
theorem kg_185_0 {i pc : Nat} {q : Instr × List Nat} (h : xk_185_0[i]? = some (pc, q)) : xe_code 185 pc = some q := xs_code kh_185 kf_185 (List.mem_of_getElem? h)
set_option maxRecDepth 100000 in
theorem kh_186 : xe_cds[186]? = some xk_186 := rfl
theorem kf_186 : xs_inc 0 xk_186 = true := by decide +kernel
theorem kg_186_0 {i pc : Nat} {q : Instr × List Nat} (h : xk_186_0[i]? = some (pc, q)) : xe_code 186 pc = some q := xs_code kh_186 kf_186 (List.mem_of_getElem? h)
set_option maxRecDepth 100000 in
theorem kh_187 : xe_cds[187]? = some xk_187 := rfl
theorem kf_187 : xs_inc 0 xk_187 = true := by decide +kernel
theorem kg_187_0 {i pc : Nat} {q : Instr × List Nat} (h : xk_187_0[i]? = some (pc, q)) : xe_code 187 pc = some q := xs_code kh_187 kf_187 (List.mem_of_getElem? h)
set_option maxRecDepth 100000 in
theorem kh_188 : xe_cds[188]? = some xk_188 := rfl
theorem kf_188 : xs_inc 0 xk_188 = true := by decide +kernel
theorem kg_188_0 {i pc : Nat} {q : Instr × List Nat} (h : xk_188_0[i]? = some (pc, q)) : xe_code 188 pc = some q := xs_code kh_188 kf_188 (List.mem_of_getElem? h)
set_option maxRecDepth 100000 in
theorem kh_189 : xe_cds[189]? = some xk_189 := rfl
theorem kf_189 : xs_inc 0 xk_189 = true := by decide +kernel
theorem kg_189_0 {i pc : Nat} {q : Instr × List Nat} (h : xk_189_0[i]? = some (pc, q)) : xe_code 189 pc = some q := xs_code kh_189 kf_189 (List.mem_of_getElem? h)
set_option maxRecDepth 100000 in
theorem kh_190 : xe_cds[190]? = some xk_190 := rfl
theorem kf_190 : xs_inc 0 xk_190 = true := by decide +kernel
theorem kg_190_0 {i pc : Nat} {q : Instr × List Nat} (h : xk_190_0[i]? = some (pc, q)) : xe_code 190 pc = some q := xs_code kh_190 kf_190 (List.mem_append_left _ (List.mem_of_getElem? h))
theorem kg_190_1 {i pc : Nat} {q : Instr × List Nat} (h : xk_190_1[i]? = some (pc, q)) : xe_code 190 pc = some q := xs_code kh_190 kf_190 (List.mem_append_right _ (List.mem_of_getElem? h))
set_option maxRecDepth 100000 in
theorem kh_191 : xe_cds[191]? = some xk_191 := rfl
theorem kf_191 : xs_inc 0 xk_191 = true := by decide +kernel
theorem kg_191_0 {i pc : Nat} {q : Instr × List Nat} (h : xk_191_0[i]? = some (pc, q)) : xe_code 191 pc = some q := xs_code kh_191 kf_191 (List.mem_of_getElem? h)
set_option maxRecDepth 100000 in
theorem kh_192 : xe_cds[192]? = some xk_192 := rfl
theorem kf_192 : xs_inc 0 xk_192 = true := by decide +kernel
theorem kg_192_0 {i pc : Nat} {q : Instr × List Nat} (h : xk_192_0[i]? = some (pc, q)) : xe_code 192 pc = some q := xs_code kh_192 kf_192 (List.mem_of_getElem? h)
set_option maxRecDepth 100000 in
theorem kh_193 : xe_cds[193]? = some xk_193 := rfl
theorem kf_193 : xs_inc 0 xk_193 = true := by decide +kernel
theorem kg_193_0 {i pc : Nat} {q : Instr × List Nat} (h : xk_193_0[i]? = some (pc, q)) : xe_code 193 pc = some q := xs_code kh_193 kf_193 (List.mem_of_getElem? h)
set_option maxRecDepth 100000 in
theorem kh_195 : xe_cds[195]? = some xk_195 := rfl
theorem kf_195 : xs_inc 0 xk_195 = true := by decide +kernel
theorem kg_195_0 {i pc : Nat} {q : Instr × List Nat} (h : xk_195_0[i]? = some (pc, q)) : xe_code 195 pc = some q := xs_code kh_195 kf_195 (List.mem_append_left _ (List.mem_of_getElem? h))
theorem kg_195_1 {i pc : Nat} {q : Instr × List Nat} (h : xk_195_1[i]? = some (pc, q)) : xe_code 195 pc = some q := xs_code kh_195 kf_195 (List.mem_append_right _ (List.mem_append_left _ (List.mem_of_getElem? h)))
theorem kg_195_2 {i pc : Nat} {q : Instr × List Nat} (h : xk_195_2[i]? = some (pc, q)) : xe_code 195 pc = some q := xs_code kh_195 kf_195 (List.mem_append_right _ (List.mem_append_right _ (List.mem_append_left _ (List.mem_of_getElem? h))))
theorem kg_195_3 {i pc : Nat} {q : Instr × List Nat} (h : xk_195_3[i]? = some (pc, q)) : xe_code 195 pc = some q := xs_code kh_195 kf_195 (List.mem_append_right _ (List.mem_append_right _ (List.mem_append_right _ (List.mem_append_left _ (List.mem_of_getElem? h)))))
theorem kg_195_4 {i pc : Nat} {q : Instr × List Nat} (h : xk_195_4[i]? = some (pc, q)) : xe_code 195 pc = some q := xs_code kh_195 kf_195 (List.mem_append_right _ (List.mem_append_right _ (List.mem_append_right _ (List.mem_append_right _ (List.mem_append_left _ (List.mem_of_getElem? h))))))
theorem kg_195_5 {i pc : Nat} {q : Instr × List Nat} (h : xk_195_5[i]? = some (pc, q)) : xe_code 195 pc = some q := xs_code kh_195 kf_195 (List.mem_append_right _ (List.mem_append_right _ (List.mem_append_right _ (List.mem_append_right _ (List.mem_append_right _ (List.mem_append_left _ (List.mem_of_getElem? h)))))))
theorem kg_195_6 {i pc : Nat} {q : Instr × List Nat} (h : xk_195_6[i]? = some (pc, q)) : xe_code 195 pc = some q := xs_code kh_195 kf_195 (List.mem_append_right _ (List.mem_append_right _ (List.mem_append_right _ (List.mem_append_right _ (List.mem_append_right _ (List.mem_append_right _ (List.mem_append_left _ (List.mem_of_getElem? h))))))))
theorem kg_195_7 {i pc : Nat} {q : Instr × List Nat} (h : xk_195_7[i]? = some (pc, q)) : xe_code 195 pc = some q := xs_code kh_195 kf_195 (List.mem_append_right _ (List.mem_append_right _ (List.mem_append_right _ (List.mem_append_right _ (List.mem_append_right _ (List.mem_append_right _ (List.mem_append_right _ (List.mem_append_left _ (List.mem_of_getElem? h)))))))))
theorem kg_195_8 {i pc : Nat} {q : Instr × List Nat} (h : xk_195_8[i]? = some (pc, q)) : xe_code 195 pc = some q := xs_code kh_195 kf_195 (List.mem_append_right _ (List.mem_append_right _ (List.mem_append_right _ (List.mem_append_right _ (List.mem_append_right _ (List.mem_append_right _ (List.mem_append_right _ (List.mem_append_right _ (List.mem_append_left _ (List.mem_of_getElem? h))))))))))
theorem kg_195_9 {i pc : Nat} {q : Instr × List Nat} (h : xk_195_9[i]? = some (pc, q)) : xe_code 195 pc = some q := xs_code kh_195 kf_195 (List.mem_append_right _ (List.mem_append_right _ (List.mem_append_right _ (List.mem_append_right _ (List.mem_append_right _ (List.mem_append_right _ (List.mem_append_right _ (List.mem_append_right _ (List.mem_append_right _ (List.mem_append_left _ (List.mem_of_getElem? h)))))))))))
theorem kg_195_10 {i pc : Nat} {q : Instr × List Nat} (h : xk_195_10[i]? = some (pc, q)) : xe_code 195 pc = some q := xs_code kh_195 kf_195 (List.mem_append_right _ (List.mem_append_right _ (List.mem_append_right _ (List.mem_append_right _ (List.mem_append_right _ (List.mem_append_right _ (List.mem_append_right _ (List.mem_append_right _ (List.mem_append_right _ (List.mem_append_right _ (List.mem_append_left _ (List.mem_of_getElem? h))))))))))))
theorem kg_195_11 {i pc : Nat} {q : Instr × List Nat} (h : xk_195_11[i]? = some (pc, q)) : xe_code 195 pc = some q := xs_code kh_195 kf_195 (List.mem_append_right _ (List.mem_append_right _ (List.mem_append_right _ (List.mem_append_right _ (List.mem_append_right _ (List.mem_append_right _ (List.mem_append_right _ (List.mem_append_right _ (List.mem_append_right _ (List.mem_append_right _ (List.mem_append_right _ (List.mem_append_left _ (List.mem_of_getElem? h)))))))))))))
theorem kg_195_12 {i pc : Nat} {q : Instr × List Nat} (h : xk_195_12[i]? = some (pc, q)) : xe_code 195 pc = some q := xs_code kh_195 kf_195 (List.mem_append_right _ (List.mem_append_right _ (List.mem_append_right _ (List.mem_append_right _ (List.mem_append_right _ (List.mem_append_right _ (List.mem_append_right _ (List.mem_append_right _ (List.mem_append_right _ (List.mem_append_right _ (List.mem_append_right _ (List.mem_append_right _ (List.mem_append_left _ (List.mem_of_getElem? h))))))))))))))
theorem kg_195_13 {i pc : Nat} {q : Instr × List Nat} (h : xk_195_13[i]? = some (pc, q)) : xe_code 195 pc = some q := xs_code kh_195 kf_195 (List.mem_append_right _ (List.mem_append_right _ (List.mem_append_right _ (List.mem_append_right _ (List.mem_append_right _ (List.mem_append_right _ (List.mem_append_right _ (List.mem_append_right _ (List.mem_append_right _ (List.mem_append_right _ (List.mem_append_right _ (List.mem_append_right _ (List.mem_append_right _ (List.mem_append_left _ (List.mem_of_getElem? h)))))))))))))))
theorem kg_195_14 {i pc : Nat} {q : Instr × List Nat} (h : xk_195_14[i]? = some (pc, q)) : xe_code 195 pc = some q := xs_code kh_195 kf_195 (List.mem_append_right _ (List.mem_append_right _ (List.mem_append_right _ (List.mem_append_right _ (List.mem_append_right _ (List.mem_append_right _ (List.mem_append_right _ (List.mem_append_right _ (List.mem_append_right _ (List.mem_append_right _ (List.mem_append_right _ (List.mem_append_right _ (List.mem_append_right _ (List.mem_append_right _ (List.mem_append_left _ (List.mem_of_getElem? h))))))))))))))))
theorem kg_195_15 {i pc : Nat} {q : Instr × List Nat} (h : xk_195_15[i]? = some (pc, q)) : xe_code 195 pc = some q := xs_code kh_195 kf_195 (List.mem_append_right _ (List.mem_append_right _ (List.mem_append_right _ (List.mem_append_right _ (List.mem_append_right _ (List.mem_append_right _ (List.mem_append_right _ (List.mem_append_right _ (List.mem_append_right _ (List.mem_append_right _ (List.mem_append_right _ (List.mem_append_right _ (List.mem_append_right _ (List.mem_append_right _ (List.mem_append_right _ (List.mem_append_left _ (List.mem_of_getElem? h)))))))))))))))))
theorem kg_195_16 {i pc : Nat} {q : Instr × List Nat} (h : xk_195_16[i]? = some (pc, q)) : xe_code 195 pc = some q := xs_code kh_195 kf_195 (List.mem_append_right _ (List.mem_append_right _ (List.mem_append_right _ (List.mem_append_right _ (List.mem_append_right _ (List.mem_append_right _ (List.mem_append_right _ (List.mem_append_right _ (List.mem_append_right _ (List.mem_append_right _ (List.mem_append_right _ (List.mem_append_right _ (List.mem_append_right _ (List.mem_append_right _ (List.mem_append_right _ (List.mem_append_right _ (List.mem_append_left _ (List.mem_of_getElem? h))))))))))))))))))
theorem kg_195_17 {i pc : Nat} {q : Instr × List Nat} (h : xk_195_17[i]? = some (pc, q)) : xe_code 195 pc = some q := xs_code kh_195 kf_195 (List.mem_append_right _ (List.mem_append_right _ (List.mem_append_right _ (List.mem_append_right _ (List.mem_append_right _ (List.mem_append_right _ (List.mem_append_right _ (List.mem_append_right _ (List.mem_append_right _ (List.mem_append_right _ (List.mem_append_right _ (List.mem_append_right _ (List.mem_append_right _ (List.mem_append_right _ (List.mem_append_right _ (List.mem_append_right _ (List.mem_append_right _ (List.mem_append_left _ (List.mem_of_getElem? h)))))))))))))))))))
theorem kg_195_18 {i pc : Nat} {q : Instr × List Nat} (h : xk_195_18[i]? = some (pc, q)) : xe_code 195 pc = some q := xs_code kh_195 kf_195 (List.mem_append_right _ (List.mem_append_right _ (List.mem_append_right _ (List.mem_append_right _ (List.mem_append_right _ (List.mem_append_right _ (List.mem_append_right _ (List.mem_append_right _ (List.mem_append_right _ (List.mem_append_right _ (List.mem_append_right _ (List.mem_append_right _ (List.mem_append_right _ (List.mem_append_right _ (List.mem_append_right _ (List.mem_append_right _ (List.mem_append_right _ (List.mem_append_right _ (List.mem_append_left _ (List.mem_of_getElem? h))))))))))))))))))))
theorem kg_195_19 {i pc : Nat} {q : Instr × List Nat} (h : xk_195_19[i]? = some (pc, q)) : xe_code 195 pc = some q := xs_code kh_195 kf_195 (List.mem_append_right _ (List.mem_append_right _ (List.mem_append_right _ (List.mem_append_right _ (List.mem_append_right _ (List.mem_append_right _ (List.mem_append_right _ (List.mem_append_right _ (List.mem_append_right _ (List.mem_append_right _ (List.mem_append_right _ (List.mem_append_right _ (List.mem_append_right _ (List.mem_append_right _ (List.mem_append_right _ (List.mem_append_right _ (List.mem_append_right _ (List.mem_append_right _ (List.mem_append_right _ (List.mem_of_getElem? h))))))))))))))))))))
