theorem ck_185_0 : xk_185_0.all (xe_ck 185) = true := by decide +kernel
theorem ck_186_0 : xk_186_0.all (xe_ck 186) = true := by decide +kernel
theorem ck_187_0 : xk_187_0.all (xe_ck 187) = true := by decide +kernel
theorem ck_188_0 : xk_188_0.all (xe_ck 188) = true := by decide +kernel
theorem ck_189_0 : xk_189_0.all (xe_ck 189) = true := by decide +kernel
theorem ck_190_0 : xk_190_0.all (xe_ck 190) = true := by decide +kernel
theorem ck_191_0 : xk_191_0.all (xe_ck 191) = true := by decide +kernel
theorem ck_191_1 : xk_191_1.all (xe_ck 191) = true := by decide +kernel
theorem ck_192_0 : xk_192_0.all (xe_ck 192) = true := by decide +kernel
theorem ck_193_0 : xk_193_0.all (xe_ck 193) = true := by decide +kernel
theorem ck_194_0 : xk_194_0.all (xe_ck 194) = true := by decide +kernel
theorem ck_195_0 : xk_195_0.all (xe_ck 195) = true := by decide +kernel
theorem ck_196_0 : xk_196_0.all (xe_ck 196) = true := by decide +kernel
theorem ck_196_1 : xk_196_1.all (xe_ck 196) = true := by decide +kernel
theorem ck_196_2 : xk_196_2.all (xe_ck 196) = true := by decide +kernel
theorem ck_196_3 : xk_196_3.all (xe_ck 196) = true := by decide +kernel
theorem ck_196_4 : xk_196_4.all (xe_ck 196) = true := by decide +kernel
theorem ck_196_5 : xk_196_5.all (xe_ck 196) = true := by decide +kernel
theorem ck_196_6 : xk_196_6.all (xe_ck 196) = true := by decide +kernel
theorem ck_196_7 : xk_196_7.all (xe_ck 196) = true := by decide +kernel
theorem ck_196_8 : xk_196_8.all (xe_ck 196) = true := by decide +kernel
theorem ck_196_9 : xk_196_9.all (xe_ck 196) = true := by decide +kernel
theorem ck_196_10 : xk_196_10.all (xe_ck 196) = true := by decide +kernel
theorem ck_196_11 : xk_196_11.all (xe_ck 196) = true := by decide +kernel
theorem ck_196_12 : xk_196_12.all (xe_ck 196) = true := by decide +kernel
theorem ck_196_13 : xk_196_13.all (xe_ck 196) = true := by decide +kernel
theorem ck_196_14 : xk_196_14.all (xe_ck 196) = true := by decide +kernel
theorem ck_196_15 : xk_196_15.all (xe_ck 196) = true := by decide +kernel
theorem ck_196_16 : xk_196_16.all (xe_ck 196) = true := by decide +kernel
theorem ck_196_17 : xk_196_17.all (xe_ck 196) = true := by decide +kernel
theorem ck_196_18 : xk_196_18.all (xe_ck 196) = true := by decide +kernel
theorem ck_196_19 : xk_196_19.all (xe_ck 196) = true := by decide +kernel
theorem ck_196_20 : xk_196_20.all (xe_ck 196) = true := by decide +kernel
theorem xe_allapp {p : Nat × Instr × List Nat → Bool} {a b : List (Nat × Instr × List Nat)} (ha : a.all p = true) (hb : b.all p = true) : (a ++ b).all p = true := by rw [List.all_append, ha, hb]; rfl
def xe_allF (k : Nat) : List (List (Nat × Instr × List Nat)) → Prop
  | [] => True
  | x :: l => x.all (xe_ck k) = true ∧ xe_allF (k + 1) l
theorem xe_allF_get : ∀ (l : List (List (Nat × Instr × List Nat))) (k : Nat), xe_allF k l → ∀ mi, (l.getD mi []).all (xe_ck (k + mi)) = true
  | [], _, _, mi => by simp
  | x :: l, k, h, 0 => h.1
  | x :: l, k, h, mi + 1 => by
    have := xe_allF_get l (k + 1) h.2 mi
    rw [show k + 1 + mi = k + (mi + 1) by omega] at this
    exact this
