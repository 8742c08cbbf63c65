theorem ck_185_0 : xk_185_0.all (xe_ck 185) = true := by decide +kernel
theorem ck_186_0 : xk_186_0.all (xe_ck 186) = true := by decide +kernel
theorem ck_187_0 : xk_187_0.all (xe_ck 187) = true := by decide +kernel
theorem ck_188_0 : xk_188_0.all (xe_ck 188) = true := by decide +kernel
theorem ck_189_0 : xk_189_0.all (xe_ck 189) = true := by decide +kernel
theorem ck_190_0 : xk_190_0.all (xe_ck 190) = true := by decide +kernel
theorem ck_190_1 : xk_190_1.all (xe_ck 190) = true := by decide +kernel
theorem ck_191_0 : xk_191_0.all (xe_ck 191) = true := by decide +kernel
theorem ck_192_0 : xk_192_0.all (xe_ck 192) = true := by decide +kernel
theorem ck_193_0 : xk_193_0.all (xe_ck 193) = true := by decide +kernel
theorem ck_194_0 : xk_194_0.all (xe_ck 194) = true := by decide +kernel
theorem ck_195_0 : xk_195_0.all (xe_ck 195) = true := by decide +kernel
theorem ck_195_1 : xk_195_1.all (xe_ck 195) = true := by decide +kernel
theorem ck_195_2 : xk_195_2.all (xe_ck 195) = true := by decide +kernel
theorem ck_195_3 : xk_195_3.all (xe_ck 195) = true := by decide +kernel
theorem ck_195_4 : xk_195_4.all (xe_ck 195) = true := by decide +kernel
theorem ck_195_5 : xk_195_5.all (xe_ck 195) = true := by decide +kernel
theorem ck_195_6 : xk_195_6.all (xe_ck 195) = true := by decide +kernel
theorem ck_195_7 : xk_195_7.all (xe_ck 195) = true := by decide +kernel
theorem ck_195_8 : xk_195_8.all (xe_ck 195) = true := by decide +kernel
theorem ck_195_9 : xk_195_9.all (xe_ck 195) = true := by decide +kernel
theorem ck_195_10 : xk_195_10.all (xe_ck 195) = true := by decide +kernel
theorem ck_195_11 : xk_195_11.all (xe_ck 195) = true := by decide +kernel
theorem ck_195_12 : xk_195_12.all (xe_ck 195) = true := by decide +kernel
theorem ck_195_13 : xk_195_13.all (xe_ck 195) = true := by decide +kernel
theorem ck_195_14 : xk_195_14.all (xe_ck 195) = true := by decide +kernel
theorem ck_195_15 : xk_195_15.all (xe_ck 195) = true := by decide +kernel
theorem ck_195_16 : xk_195_16.all (xe_ck 195) = true := by decide +kernel
theorem ck_195_17 : xk_195_17.all (xe_ck 195) = true := by decide +kernel
theorem ck_195_18 : xk_195_18.all (xe_ck 195) = true := by decide +kernel
theorem ck_195_19 : xk_195_19.all (xe_ck 195) = true := by decide +kernel
theorem xe_allapp {p : Nat × Instr × List Nat → Bool} {a b : List (Nat × Instr × List Nat)} (ha : a.all p = true) (hb : b.all p = true) : (a ++ b).all p = true := by rw [List.all_append, ha, hb]; rfl
def xe_allF (k : Nat) : List (List (Nat × Instr × List Nat)) → Prop
  | [] => True
  | x :: l => x.all (xe_ck k) = true ∧ xe_allF (k + 1) l
theorem xe_allF_get : ∀ (l : List (List (Nat × Instr × List Nat))) (k : Nat), xe_allF k l → ∀ mi, (l.getD mi []).all (xe_ck (k + mi)) = true
  | [], _, _, mi => by simp
  | x :: l, k, h, 0 => h.1
  | x :: l, k, h, mi + 1 => by
    have := xe_allF_get l (k + 1) h.2 mi
    rw [show k + 1 + mi = k + (mi + 1) by omega] at this
    exact this
