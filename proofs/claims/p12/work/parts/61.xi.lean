/-! Runs with a wish for their end; one row an instruction -/
def xw (J : xe_J) (ov : List (List Int32)) (d mi : Nat) (S : xe_S) (Q : Option Value → xe_H → Prop) : Prop := ∃ (n : Nat) (r : Option Value) (h' : xe_H), xe_ex J ov n d mi S = some (r, h') ∧ Q r h'
section XW
variable {J : xe_J} {ov : List (List Int32)} {d mi : Nat} {Q : Option Value → xe_H → Prop}
theorem xw_on {S S' : xe_S} (e : xe_nx ov mi S = some (.inl S')) (k : xw J ov d mi S' Q) : xw J ov d mi S Q := by
  obtain ⟨n, r, h', hn, hq⟩ := k
  exact ⟨n + 1, r, h', by rw [xe_ex_succ, e]; exact hn, hq⟩
theorem xw_ret {S : xe_S} {r : Option Value} (e : xe_nx ov mi S = some (.inr (.inl r))) (k : Q r S.2.2.2) : xw J ov d mi S Q := ⟨1, r, S.2.2.2, by rw [xe_ex_succ, e], k⟩
theorem xw_call {S : xe_S} {mj : Nat} {as st1 : List Value} (e : xe_nx ov mi S = some (.inr (.inr (mj, as, st1)))) (hj : J d mj as S.2.2.2 = none) (hc : (as.map fun v : Value => v.category).sum ≤ xe_mL mj) (k : xw J ov d mj (0, lv_args 0 as, [], S.2.2.2) (fun r h' => xw J ov (d + 1) mi (S.1 + 3, S.2.1, r.toList ++ st1, h') Q)) : xw J ov (d + 1) mi S Q := by
  obtain ⟨n1, r1, h1, e1, n2, r2, h2, e2, hq⟩ := k
  obtain ⟨n, hn⟩ := xr_call e hj hc ⟨n1, e1⟩ ⟨n2, e2⟩
  exact ⟨n, r2, h2, hn, hq⟩
theorem xw_callJ {S : xe_S} {mj : Nat} {as st1 : List Value} {r : Option Value} {h' : xe_H} (e : xe_nx ov mi S = some (.inr (.inr (mj, as, st1)))) (hj : J d mj as S.2.2.2 = some (r, h')) (k : xw J ov (d + 1) mi (S.1 + 3, S.2.1, r.toList ++ st1, h') Q) : xw J ov (d + 1) mi S Q := by
  obtain ⟨n2, r2, h2, e2, hq⟩ := k
  obtain ⟨n, hn⟩ := xr_callJ e hj ⟨n2, e2⟩
  exact ⟨n, r2, h2, hn, hq⟩
theorem xw_mono {S : xe_S} {Q' : Option Value → xe_H → Prop} (k : xw J ov d mi S Q') (hq : ∀ r h, Q' r h → Q r h) : xw J ov d mi S Q := by
  obtain ⟨n, r, h, e, q⟩ := k
  exact ⟨n, r, h, e, hq r h q⟩
/-- a heap that differs in one place at most -/
def xh (h : xe_H) (a : Nat) (x : xe_E) (h' : xe_H) : Prop := h'[a]? = some x ∧ (∀ j, j ≠ a → h'[j]? = h[j]?) ∧ h'.length = h.length ∧ xe_sz h' = xe_sz h
theorem xh_set {h : xe_H} {a : Nat} {x0 x : xe_E} (e : h[a]? = some x0) (hw : xe_w x = xe_w x0) : xh h a x (h.set a x) := by
  have hl := (List.getElem?_eq_some_iff.mp e).1
  exact ⟨List.getElem?_set_self hl, fun j hj => List.getElem?_set_ne (Ne.symm hj), List.length_set, xe_sz_set e hw⟩
variable {pc pc' : Nat} {ax : List Nat} {lv lv' : List (Nat × Value)} {st : List Value} {h : xe_H}
theorem xi_in {i : Int32} {n : Nat} (h0 : 0 ≤ i.toInt) (h1 : i.toInt < n) : ¬ (i < 0 ∨ n ≤ i.toNatClampNeg) := by
  have := (vp_in_iff (x := i) (n := n)).mpr ⟨h0, h1⟩
  exact this
theorem xi_iconst {n : Int} {v : Int32} (hc : xe_code mi pc = some (.iconst n, ax)) (hp : pc + 1 = pc') (hv : Int32.ofInt n = v) (k : xw J ov d mi (pc', lv, .int v :: st, h) Q) : xw J ov d mi (pc, lv, st, h) Q := by
  refine xw_on ?_ k
  rw [xe_nx_of hc]
  subst hp
  subst hv; rfl
theorem xi_lconst {n : Fin 2} {v : Int64} (hc : xe_code mi pc = some (.lconst n, ax)) (hp : pc + 1 = pc') (hv : Int64.ofNat n.val = v) (k : xw J ov d mi (pc', lv, .long v :: st, h) Q) : xw J ov d mi (pc, lv, st, h) Q := by
  refine xw_on ?_ k
  rw [xe_nx_of hc]
  subst hp
  subst hv; rfl
theorem xi_bipush {n : Int} {v : Int32} (hc : xe_code mi pc = some (.bipush n, ax)) (hp : pc + 2 = pc') (hv : (Int8.ofInt n).toInt32 = v) (k : xw J ov d mi (pc', lv, .int v :: st, h) Q) : xw J ov d mi (pc, lv, st, h) Q := by
  refine xw_on ?_ k
  rw [xe_nx_of hc]
  subst hp
  subst hv; rfl
theorem xi_sipush {n : Int} {v : Int32} (hc : xe_code mi pc = some (.sipush n, ax)) (hp : pc + 3 = pc') (hv : (Int16.ofInt n).toInt32 = v) (k : xw J ov d mi (pc', lv, .int v :: st, h) Q) : xw J ov d mi (pc, lv, st, h) Q := by
  refine xw_on ?_ k
  rw [xe_nx_of hc]
  subst hp
  subst hv; rfl
theorem xi_ldc {n : Nat} {v : Int32} (hc : xe_code mi pc = some (.ldc n, ax)) (hp : pc + 2 = pc') (hv : Int32.ofNat (ax.headD 0) = v) (k : xw J ov d mi (pc', lv, .int v :: st, h) Q) : xw J ov d mi (pc, lv, st, h) Q := by
  refine xw_on ?_ k
  rw [xe_nx_of hc]
  subst hp
  subst hv; rfl
theorem xi_ldc_w {n : Nat} {v : Int32} (hc : xe_code mi pc = some (.ldc_w n, ax)) (hp : pc + 3 = pc') (hv : Int32.ofNat (ax.headD 0) = v) (k : xw J ov d mi (pc', lv, .int v :: st, h) Q) : xw J ov d mi (pc, lv, st, h) Q := by
  refine xw_on ?_ k
  rw [xe_nx_of hc]
  subst hp
  subst hv; rfl
theorem xi_ldc2_w {n : Nat} {v : Int64} (hc : xe_code mi pc = some (.ldc2_w n, ax)) (hp : pc + 3 = pc') (hv : Int64.ofNat (ax.headD 0) = v) (k : xw J ov d mi (pc', lv, .long v :: st, h) Q) : xw J ov d mi (pc, lv, st, h) Q := by
  refine xw_on ?_ k
  rw [xe_nx_of hc]
  subst hp
  subst hv; rfl
theorem xi_iload_n {i : Fin 4} {x : Int32} (hc : xe_code mi pc = some (.iload_n i, ax)) (hp : pc + 1 = pc') (hl : xe_ld lv i.val = some (.int x)) (k : xw J ov d mi (pc', lv, .int x :: st, h) Q) : xw J ov d mi (pc, lv, st, h) Q := by
  refine xw_on ?_ k
  rw [xe_nx_of hc]
  subst hp
  simp only [xe_i, hl]; rfl
theorem xi_lload_n {i : Fin 4} {x : Int64} (hc : xe_code mi pc = some (.lload_n i, ax)) (hp : pc + 1 = pc') (hl : xe_ld lv i.val = some (.long x)) (k : xw J ov d mi (pc', lv, .long x :: st, h) Q) : xw J ov d mi (pc, lv, st, h) Q := by
  refine xw_on ?_ k
  rw [xe_nx_of hc]
  subst hp
  simp only [xe_i, hl]; rfl
theorem xi_aload_n {i : Fin 4} {x : Nat} (hc : xe_code mi pc = some (.aload_n i, ax)) (hp : pc + 1 = pc') (hl : xe_ld lv i.val = some (.ref x)) (k : xw J ov d mi (pc', lv, .ref x :: st, h) Q) : xw J ov d mi (pc, lv, st, h) Q := by
  refine xw_on ?_ k
  rw [xe_nx_of hc]
  subst hp
  simp only [xe_i, hl]; rfl
theorem xi_iload {i : Nat} {x : Int32} (hc : xe_code mi pc = some (.iload i, ax)) (hp : pc + 2 = pc') (hl : xe_ld lv i = some (.int x)) (k : xw J ov d mi (pc', lv, .int x :: st, h) Q) : xw J ov d mi (pc, lv, st, h) Q := by
  refine xw_on ?_ k
  rw [xe_nx_of hc]
  subst hp
  simp only [xe_i, hl]; rfl
theorem xi_lload {i : Nat} {x : Int64} (hc : xe_code mi pc = some (.lload i, ax)) (hp : pc + 2 = pc') (hl : xe_ld lv i = some (.long x)) (k : xw J ov d mi (pc', lv, .long x :: st, h) Q) : xw J ov d mi (pc, lv, st, h) Q := by
  refine xw_on ?_ k
  rw [xe_nx_of hc]
  subst hp
  simp only [xe_i, hl]; rfl
theorem xi_aload {i : Nat} {x : Nat} (hc : xe_code mi pc = some (.aload i, ax)) (hp : pc + 2 = pc') (hl : xe_ld lv i = some (.ref x)) (k : xw J ov d mi (pc', lv, .ref x :: st, h) Q) : xw J ov d mi (pc, lv, st, h) Q := by
  refine xw_on ?_ k
  rw [xe_nx_of hc]
  subst hp
  simp only [xe_i, hl]; rfl
theorem xi_istore_n {i : Fin 4} {x : Int32} (hc : xe_code mi pc = some (.istore_n i, ax)) (hp : pc + 1 = pc') (hl : xe_st1 lv i.val (.int x) = lv') (hm : i.val < xe_mL mi) (k : xw J ov d mi (pc', lv', st, h) Q) : xw J ov d mi (pc, lv, .int x :: st, h) Q := by
  refine xw_on ?_ k
  rw [xe_nx_of hc]
  subst hp
  subst hl; exact if_pos hm
theorem xi_astore_n {i : Fin 4} {x : Nat} (hc : xe_code mi pc = some (.astore_n i, ax)) (hp : pc + 1 = pc') (hl : xe_st1 lv i.val (.ref x) = lv') (hm : i.val < xe_mL mi) (k : xw J ov d mi (pc', lv', st, h) Q) : xw J ov d mi (pc, lv, .ref x :: st, h) Q := by
  refine xw_on ?_ k
  rw [xe_nx_of hc]
  subst hp
  subst hl; exact if_pos hm
theorem xi_lstore_n {i : Fin 4} {x : Int64} (hc : xe_code mi pc = some (.lstore_n i, ax)) (hp : pc + 1 = pc') (hl : xe_st2 lv i.val (.long x) = lv') (hm : i.val + 1 < xe_mL mi) (k : xw J ov d mi (pc', lv', st, h) Q) : xw J ov d mi (pc, lv, .long x :: st, h) Q := by
  refine xw_on ?_ k
  rw [xe_nx_of hc]
  subst hp
  subst hl; exact if_pos hm
theorem xi_istore {i : Nat} {x : Int32} (hc : xe_code mi pc = some (.istore i, ax)) (hp : pc + 2 = pc') (hl : xe_st1 lv i (.int x) = lv') (hm : i < xe_mL mi) (k : xw J ov d mi (pc', lv', st, h) Q) : xw J ov d mi (pc, lv, .int x :: st, h) Q := by
  refine xw_on ?_ k
  rw [xe_nx_of hc]
  subst hp
  subst hl; exact if_pos hm
theorem xi_astore {i : Nat} {x : Nat} (hc : xe_code mi pc = some (.astore i, ax)) (hp : pc + 2 = pc') (hl : xe_st1 lv i (.ref x) = lv') (hm : i < xe_mL mi) (k : xw J ov d mi (pc', lv', st, h) Q) : xw J ov d mi (pc, lv, .ref x :: st, h) Q := by
  refine xw_on ?_ k
  rw [xe_nx_of hc]
  subst hp
  subst hl; exact if_pos hm
theorem xi_lstore {i : Nat} {x : Int64} (hc : xe_code mi pc = some (.lstore i, ax)) (hp : pc + 2 = pc') (hl : xe_st2 lv i (.long x) = lv') (hm : i + 1 < xe_mL mi) (k : xw J ov d mi (pc', lv', st, h) Q) : xw J ov d mi (pc, lv, .long x :: st, h) Q := by
  refine xw_on ?_ k
  rw [xe_nx_of hc]
  subst hp
  subst hl; exact if_pos hm
theorem xi_iinc {i : Nat} {c : Int} {x v : Int32} (hc : xe_code mi pc = some (.iinc i c, ax)) (hp : pc + 3 = pc') (hx : xe_ld lv i = some (.int x)) (hv : x + Int32.ofInt c = v) (hl : xe_st1 lv i (.int v) = lv') (hm : i < xe_mL mi) (k : xw J ov d mi (pc', lv', st, h) Q) : xw J ov d mi (pc, lv, st, h) Q := by
  refine xw_on ?_ k
  rw [xe_nx_of hc]
  subst hp
  subst hv; subst hl; simp only [xe_i, hx]; exact if_pos hm
theorem xi_iadd {x y v : Int32} (hc : xe_code mi pc = some (.iadd, ax)) (hp : pc + 1 = pc') (hv : x + y = v) (k : xw J ov d mi (pc', lv, .int v :: st, h) Q) : xw J ov d mi (pc, lv, .int y :: .int x :: st, h) Q := by
  refine xw_on ?_ k
  rw [xe_nx_of hc]
  subst hp
  subst hv; rfl
theorem xi_isub {x y v : Int32} (hc : xe_code mi pc = some (.isub, ax)) (hp : pc + 1 = pc') (hv : x - y = v) (k : xw J ov d mi (pc', lv, .int v :: st, h) Q) : xw J ov d mi (pc, lv, .int y :: .int x :: st, h) Q := by
  refine xw_on ?_ k
  rw [xe_nx_of hc]
  subst hp
  subst hv; rfl
theorem xi_imul {x y v : Int32} (hc : xe_code mi pc = some (.imul, ax)) (hp : pc + 1 = pc') (hv : x * y = v) (k : xw J ov d mi (pc', lv, .int v :: st, h) Q) : xw J ov d mi (pc, lv, .int y :: .int x :: st, h) Q := by
  refine xw_on ?_ k
  rw [xe_nx_of hc]
  subst hp
  subst hv; rfl
theorem xi_iand {x y v : Int32} (hc : xe_code mi pc = some (.iand, ax)) (hp : pc + 1 = pc') (hv : x &&& y = v) (k : xw J ov d mi (pc', lv, .int v :: st, h) Q) : xw J ov d mi (pc, lv, .int y :: .int x :: st, h) Q := by
  refine xw_on ?_ k
  rw [xe_nx_of hc]
  subst hp
  subst hv; rfl
theorem xi_ior {x y v : Int32} (hc : xe_code mi pc = some (.ior, ax)) (hp : pc + 1 = pc') (hv : x ||| y = v) (k : xw J ov d mi (pc', lv, .int v :: st, h) Q) : xw J ov d mi (pc, lv, .int y :: .int x :: st, h) Q := by
  refine xw_on ?_ k
  rw [xe_nx_of hc]
  subst hp
  subst hv; rfl
theorem xi_ixor {x y v : Int32} (hc : xe_code mi pc = some (.ixor, ax)) (hp : pc + 1 = pc') (hv : x ^^^ y = v) (k : xw J ov d mi (pc', lv, .int v :: st, h) Q) : xw J ov d mi (pc, lv, .int y :: .int x :: st, h) Q := by
  refine xw_on ?_ k
  rw [xe_nx_of hc]
  subst hp
  subst hv; rfl
theorem xi_ishl {x y v : Int32} (hc : xe_code mi pc = some (.ishl, ax)) (hp : pc + 1 = pc') (hv : x <<< (y &&& 31) = v) (k : xw J ov d mi (pc', lv, .int v :: st, h) Q) : xw J ov d mi (pc, lv, .int y :: .int x :: st, h) Q := by
  refine xw_on ?_ k
  rw [xe_nx_of hc]
  subst hp
  subst hv; rfl
theorem xi_ishr {x y v : Int32} (hc : xe_code mi pc = some (.ishr, ax)) (hp : pc + 1 = pc') (hv : x >>> (y &&& 31) = v) (k : xw J ov d mi (pc', lv, .int v :: st, h) Q) : xw J ov d mi (pc, lv, .int y :: .int x :: st, h) Q := by
  refine xw_on ?_ k
  rw [xe_nx_of hc]
  subst hp
  subst hv; rfl
theorem xi_iushr {x y v : Int32} (hc : xe_code mi pc = some (.iushr, ax)) (hp : pc + 1 = pc') (hv : (x.toUInt32 >>> (y.toUInt32 &&& Int32.toUInt32 31)).toInt32 = v) (k : xw J ov d mi (pc', lv, .int v :: st, h) Q) : xw J ov d mi (pc, lv, .int y :: .int x :: st, h) Q := by
  refine xw_on ?_ k
  rw [xe_nx_of hc]
  subst hp
  subst hv; rfl
theorem xi_idiv {x y v : Int32} (hc : xe_code mi pc = some (.idiv, ax)) (hp : pc + 1 = pc') (hv : x / y = v) (h0 : ¬ y = 0) (k : xw J ov d mi (pc', lv, .int v :: st, h) Q) : xw J ov d mi (pc, lv, .int y :: .int x :: st, h) Q := by
  refine xw_on ?_ k
  rw [xe_nx_of hc]
  subst hp
  subst hv; exact if_neg h0
theorem xi_irem {x y v : Int32} (hc : xe_code mi pc = some (.irem, ax)) (hp : pc + 1 = pc') (hv : x - x / y * y = v) (h0 : ¬ y = 0) (k : xw J ov d mi (pc', lv, .int v :: st, h) Q) : xw J ov d mi (pc, lv, .int y :: .int x :: st, h) Q := by
  refine xw_on ?_ k
  rw [xe_nx_of hc]
  subst hp
  subst hv; exact if_neg h0
theorem xi_ineg {x v : Int32} (hc : xe_code mi pc = some (.ineg, ax)) (hp : pc + 1 = pc') (hv : -x = v) (k : xw J ov d mi (pc', lv, .int v :: st, h) Q) : xw J ov d mi (pc, lv, .int x :: st, h) Q := by
  refine xw_on ?_ k
  rw [xe_nx_of hc]
  subst hp
  subst hv; rfl
theorem xi_i2l {x : Int32} {v : Int64} (hc : xe_code mi pc = some (.i2l, ax)) (hp : pc + 1 = pc') (hv : x.toInt64 = v) (k : xw J ov d mi (pc', lv, .long v :: st, h) Q) : xw J ov d mi (pc, lv, .int x :: st, h) Q := by
  refine xw_on ?_ k
  rw [xe_nx_of hc]
  subst hp
  subst hv; rfl
theorem xi_l2i {x : Int64} {v : Int32} (hc : xe_code mi pc = some (.l2i, ax)) (hp : pc + 1 = pc') (hv : x.toInt32 = v) (k : xw J ov d mi (pc', lv, .int v :: st, h) Q) : xw J ov d mi (pc, lv, .long x :: st, h) Q := by
  refine xw_on ?_ k
  rw [xe_nx_of hc]
  subst hp
  subst hv; rfl
theorem xi_ladd {x y v : Int64} (hc : xe_code mi pc = some (.ladd, ax)) (hp : pc + 1 = pc') (hv : x + y = v) (k : xw J ov d mi (pc', lv, .long v :: st, h) Q) : xw J ov d mi (pc, lv, .long y :: .long x :: st, h) Q := by
  refine xw_on ?_ k
  rw [xe_nx_of hc]
  subst hp
  subst hv; rfl
theorem xi_lsub {x y v : Int64} (hc : xe_code mi pc = some (.lsub, ax)) (hp : pc + 1 = pc') (hv : x - y = v) (k : xw J ov d mi (pc', lv, .long v :: st, h) Q) : xw J ov d mi (pc, lv, .long y :: .long x :: st, h) Q := by
  refine xw_on ?_ k
  rw [xe_nx_of hc]
  subst hp
  subst hv; rfl
theorem xi_lmul {x y v : Int64} (hc : xe_code mi pc = some (.lmul, ax)) (hp : pc + 1 = pc') (hv : x * y = v) (k : xw J ov d mi (pc', lv, .long v :: st, h) Q) : xw J ov d mi (pc, lv, .long y :: .long x :: st, h) Q := by
  refine xw_on ?_ k
  rw [xe_nx_of hc]
  subst hp
  subst hv; rfl
theorem xi_land {x y v : Int64} (hc : xe_code mi pc = some (.land, ax)) (hp : pc + 1 = pc') (hv : x &&& y = v) (k : xw J ov d mi (pc', lv, .long v :: st, h) Q) : xw J ov d mi (pc, lv, .long y :: .long x :: st, h) Q := by
  refine xw_on ?_ k
  rw [xe_nx_of hc]
  subst hp
  subst hv; rfl
theorem xi_lor {x y v : Int64} (hc : xe_code mi pc = some (.lor, ax)) (hp : pc + 1 = pc') (hv : x ||| y = v) (k : xw J ov d mi (pc', lv, .long v :: st, h) Q) : xw J ov d mi (pc, lv, .long y :: .long x :: st, h) Q := by
  refine xw_on ?_ k
  rw [xe_nx_of hc]
  subst hp
  subst hv; rfl
theorem xi_lxor {x y v : Int64} (hc : xe_code mi pc = some (.lxor, ax)) (hp : pc + 1 = pc') (hv : x ^^^ y = v) (k : xw J ov d mi (pc', lv, .long v :: st, h) Q) : xw J ov d mi (pc, lv, .long y :: .long x :: st, h) Q := by
  refine xw_on ?_ k
  rw [xe_nx_of hc]
  subst hp
  subst hv; rfl
theorem xi_ldiv {x y v : Int64} (hc : xe_code mi pc = some (.ldiv, ax)) (hp : pc + 1 = pc') (hv : x / y = v) (h0 : ¬ y = 0) (k : xw J ov d mi (pc', lv, .long v :: st, h) Q) : xw J ov d mi (pc, lv, .long y :: .long x :: st, h) Q := by
  refine xw_on ?_ k
  rw [xe_nx_of hc]
  subst hp
  subst hv; exact if_neg h0
theorem xi_lcmp {x y : Int64} {v : Int32} (hc : xe_code mi pc = some (.lcmp, ax)) (hp : pc + 1 = pc') (hv : lg_cmp x y = v) (k : xw J ov d mi (pc', lv, .int v :: st, h) Q) : xw J ov d mi (pc, lv, .long y :: .long x :: st, h) Q := by
  refine xw_on ?_ k
  rw [xe_nx_of hc]
  subst hp
  subst hv; rfl
theorem xi_lshl {x v : Int64} {y : Int32} (hc : xe_code mi pc = some (.lshl, ax)) (hp : pc + 1 = pc') (hv : x <<< (y.toInt64 &&& 63) = v) (k : xw J ov d mi (pc', lv, .long v :: st, h) Q) : xw J ov d mi (pc, lv, .int y :: .long x :: st, h) Q := by
  refine xw_on ?_ k
  rw [xe_nx_of hc]
  subst hp
  subst hv; rfl
theorem xi_lshr {x v : Int64} {y : Int32} (hc : xe_code mi pc = some (.lshr, ax)) (hp : pc + 1 = pc') (hv : x >>> (y.toInt64 &&& 63) = v) (k : xw J ov d mi (pc', lv, .long v :: st, h) Q) : xw J ov d mi (pc, lv, .int y :: .long x :: st, h) Q := by
  refine xw_on ?_ k
  rw [xe_nx_of hc]
  subst hp
  subst hv; rfl
theorem xi_lushr {x v : Int64} {y : Int32} (hc : xe_code mi pc = some (.lushr, ax)) (hp : pc + 1 = pc') (hv : (x.toUInt64 >>> (y.toInt64.toUInt64 &&& Int64.toUInt64 63)).toInt64 = v) (k : xw J ov d mi (pc', lv, .long v :: st, h) Q) : xw J ov d mi (pc, lv, .int y :: .long x :: st, h) Q := by
  refine xw_on ?_ k
  rw [xe_nx_of hc]
  subst hp
  subst hv; rfl
theorem xi_dup {v : Value} (hc : xe_code mi pc = some (.dup, ax)) (hp : pc + 1 = pc') (hv : v.category = 1) (k : xw J ov d mi (pc', lv, v :: v :: st, h) Q) : xw J ov d mi (pc, lv, v :: st, h) Q := by
  refine xw_on ?_ k
  rw [xe_nx_of hc]
  subst hp
  exact if_pos hv
theorem xi_dup_x1 {v w : Value} (hc : xe_code mi pc = some (.dup_x1, ax)) (hp : pc + 1 = pc') (hv : v.category = 1 ∧ w.category = 1) (k : xw J ov d mi (pc', lv, v :: w :: v :: st, h) Q) : xw J ov d mi (pc, lv, v :: w :: st, h) Q := by
  refine xw_on ?_ k
  rw [xe_nx_of hc]
  subst hp
  exact if_pos hv
theorem xi_dup2 {v w : Value} (hc : xe_code mi pc = some (.dup2, ax)) (hp : pc + 1 = pc') (hv : v.category = 1 ∧ w.category = 1) (k : xw J ov d mi (pc', lv, v :: w :: v :: w :: st, h) Q) : xw J ov d mi (pc, lv, v :: w :: st, h) Q := by
  refine xw_on ?_ k
  rw [xe_nx_of hc]
  subst hp
  exact if_pos hv
theorem xi_pop {v : Value} (hc : xe_code mi pc = some (.pop, ax)) (hp : pc + 1 = pc') (hv : v.category = 1) (k : xw J ov d mi (pc', lv, st, h) Q) : xw J ov d mi (pc, lv, v :: st, h) Q := by
  refine xw_on ?_ k
  rw [xe_nx_of hc]
  subst hp
  exact if_pos hv
theorem xi_goto {o : Int} (hc : xe_code mi pc = some (.goto o, ax)) (hp : ax.headD 0 = pc') (k : xw J ov d mi (pc', lv, st, h) Q) : xw J ov d mi (pc, lv, st, h) Q := by
  refine xw_on ?_ k
  rw [xe_nx_of hc]
  subst hp
  rfl
theorem xi_ift {c : ClassFile.Cond} {o : Int} {x : Int32} (hc : xe_code mi pc = some (.ifCond c o, ax)) (hp : ax.headD 0 = pc') (hv : xe_cmp c x 0 = true) (k : xw J ov d mi (pc', lv, st, h) Q) : xw J ov d mi (pc, lv, .int x :: st, h) Q := by
  refine xw_on ?_ k
  rw [xe_nx_of hc]
  subst hp
  exact if_pos hv
theorem xi_iff {c : ClassFile.Cond} {o : Int} {x : Int32} (hc : xe_code mi pc = some (.ifCond c o, ax)) (hp : pc + 3 = pc') (hv : xe_cmp c x 0 = false) (k : xw J ov d mi (pc', lv, st, h) Q) : xw J ov d mi (pc, lv, .int x :: st, h) Q := by
  refine xw_on ?_ k
  rw [xe_nx_of hc]
  subst hp
  exact if_neg (by rw [hv]; decide)
theorem xi_cmt {c : ClassFile.Cond} {o : Int} {x y : Int32} (hc : xe_code mi pc = some (.if_icmp c o, ax)) (hp : ax.headD 0 = pc') (hv : xe_cmp c x y = true) (k : xw J ov d mi (pc', lv, st, h) Q) : xw J ov d mi (pc, lv, .int y :: .int x :: st, h) Q := by
  refine xw_on ?_ k
  rw [xe_nx_of hc]
  subst hp
  exact if_pos hv
theorem xi_cmf {c : ClassFile.Cond} {o : Int} {x y : Int32} (hc : xe_code mi pc = some (.if_icmp c o, ax)) (hp : pc + 3 = pc') (hv : xe_cmp c x y = false) (k : xw J ov d mi (pc', lv, st, h) Q) : xw J ov d mi (pc, lv, .int y :: .int x :: st, h) Q := by
  refine xw_on ?_ k
  rw [xe_nx_of hc]
  subst hp
  exact if_neg (by rw [hv]; decide)
theorem xi_tsd {dd lo hi : Int} {offs : Array Int} {x : Int32} (hc : xe_code mi pc = some (.tableswitch dd lo hi offs, ax)) (hp : ax.headD 0 = pc') (hv : x.toInt < lo ∨ hi < x.toInt) (k : xw J ov d mi (pc', lv, st, h) Q) : xw J ov d mi (pc, lv, .int x :: st, h) Q := by
  refine xw_on ?_ k
  rw [xe_nx_of hc]
  subst hp
  exact if_pos hv
theorem xi_tsi {dd lo hi z : Int} {offs : Array Int} {x : Int32} (hc : xe_code mi pc = some (.tableswitch dd lo hi offs, ax)) (hz : x.toInt = z) (hp : ax.tail[(z - lo).toNat]? = some pc') (hv : ¬ (z < lo ∨ hi < z)) (k : xw J ov d mi (pc', lv, st, h) Q) : xw J ov d mi (pc, lv, .int x :: st, h) Q := by
  refine xw_on ?_ k
  rw [xe_nx_of hc]
  subst hz
  show (if x.toInt < lo ∨ hi < x.toInt then _ else _) = _
  rw [if_neg hv, hp]
  rfl
theorem xi_getfield {a ci k n : Nat} {fs : List Value} {v : Value} (hc : xe_code mi pc = some (.getfield n, ax)) (hp : pc + 3 = pc') (h0 : ax.headD 0 = ci) (h1 : ax.getD 1 0 = k) (e : h[a]? = some (.inr (ci, fs))) (hv : fs[k]? = some v) (kk : xw J ov d mi (pc', lv, v :: st, h) Q) : xw J ov d mi (pc, lv, .ref a :: st, h) Q := by
  refine xw_on ?_ kk
  rw [xe_nx_of hc]
  subst hp; subst h0; subst h1
  simp only [xe_i, xe_pR, xe_go, e, if_true, hv]
  rfl
theorem xi_putfield {a ci k n : Nat} {fs fs' : List Value} {v : Value} {ty : FieldType} (hc : xe_code mi pc = some (.putfield n, ax)) (hp : pc + 3 = pc') (h0 : ax.headD 0 = ci) (h1 : ax.getD 1 0 = k) (e : h[a]? = some (.inr (ci, fs))) (ht : xe_fty ci k = some ty) (hn : narrow ty v = v) (hf : fits ty v = true) (hk : k < fs.length) (hs : fs.set k v = fs') (kk : ∀ h', xh h a (.inr (ci, fs')) h' → xw J ov d mi (pc', lv, st, h') Q) : xw J ov d mi (pc, lv, v :: .ref a :: st, h) Q := by
  subst hs
  refine xw_on ?_ (kk _ (xh_set e (by simp [xe_w])))
  rw [xe_nx_of hc]
  subst hp; subst h0; subst h1
  simp only [xe_i, xe_pA, xe_pR, xe_go, e, if_true, ht]
  exact if_pos ⟨hn, hf, hk⟩
theorem xi_iaload {a t : Nat} {x : List Int32} {i v : Int32} (hc : xe_code mi pc = some (.iaload, ax)) (hp : pc + 1 = pc') (e : h[a]? = some (.inl (t, .inl x))) (ha : a < xe_o) (ht : xe_ty[t]? = some .int) (hi : ¬ (i < 0 ∨ x.length ≤ i.toNatClampNeg)) (hv : x.getD i.toNatClampNeg 0 = v) (k : xw J ov d mi (pc', lv, .int v :: st, h) Q) : xw J ov d mi (pc, lv, .int i :: .ref a :: st, h) Q := by
  refine xw_on ?_ k
  rw [xe_nx_of hc]
  subst hp; subst hv
  simp only [xe_i, xe_pRI, xe_gi, if_pos ha, e, if_pos ht]
  exact if_pos hi
theorem xi_ialoadO {a : Nat} {x : List Int32} {i v : Int32} (hc : xe_code mi pc = some (.iaload, ax)) (hp : pc + 1 = pc') (ha : ¬ a < xe_o) (e : ov[a - xe_o]? = some x) (hi : ¬ (i < 0 ∨ x.length ≤ i.toNatClampNeg)) (hv : x.getD i.toNatClampNeg 0 = v) (k : xw J ov d mi (pc', lv, .int v :: st, h) Q) : xw J ov d mi (pc, lv, .int i :: .ref a :: st, h) Q := by
  refine xw_on ?_ k
  rw [xe_nx_of hc]
  subst hp; subst hv
  simp only [xe_i, xe_pRI, xe_gi, if_neg ha, e]
  exact if_pos hi
theorem xi_baload {a t : Nat} {x : List Int32} {i v : Int32} (hc : xe_code mi pc = some (.baload, ax)) (hp : pc + 1 = pc') (e : h[a]? = some (.inl (t, .inl x))) (ht : xe_ty[t]? = some .boolean) (hi : ¬ (i < 0 ∨ x.length ≤ i.toNatClampNeg)) (hv : x.getD i.toNatClampNeg 0 = v) (k : xw J ov d mi (pc', lv, .int v :: st, h) Q) : xw J ov d mi (pc, lv, .int i :: .ref a :: st, h) Q := by
  refine xw_on ?_ k
  rw [xe_nx_of hc]
  subst hp; subst hv
  simp only [xe_i, xe_pRI, xe_gw, e, if_pos ht]
  exact if_pos hi
theorem xi_laload {a t : Nat} {x : List Int64} {i : Int32} {v : Int64} (hc : xe_code mi pc = some (.laload, ax)) (hp : pc + 1 = pc') (e : h[a]? = some (.inl (t, .inr (.inl x)))) (ht : xe_ty[t]? = some .long) (hi : ¬ (i < 0 ∨ x.length ≤ i.toNatClampNeg)) (hv : x.getD i.toNatClampNeg 0 = v) (k : xw J ov d mi (pc', lv, .long v :: st, h) Q) : xw J ov d mi (pc, lv, .int i :: .ref a :: st, h) Q := by
  refine xw_on ?_ k
  rw [xe_nx_of hc]
  subst hp; subst hv
  simp only [xe_i, xe_pRI, xe_gl, e, if_pos ht]
  exact if_pos hi
theorem xi_aaload {a t b : Nat} {C : String} {x : List (Option Nat)} {i : Int32} (hc : xe_code mi pc = some (.aaload, ax)) (hp : pc + 1 = pc') (e : h[a]? = some (.inl (t, .inr (.inr x)))) (ht : xe_ty[t]? = some (.object C)) (hi : ¬ (i < 0 ∨ x.length ≤ i.toNatClampNeg)) (hv : x.getD i.toNatClampNeg none = some b) (k : xw J ov d mi (pc', lv, .ref b :: st, h) Q) : xw J ov d mi (pc, lv, .int i :: .ref a :: st, h) Q := by
  refine xw_on ?_ k
  rw [xe_nx_of hc]
  subst hp
  simp only [xe_i, xe_pRI, xe_gq, e, ht]
  rw [if_pos hi, hv]
  rfl
theorem xi_iastore {a t : Nat} {x x' : List Int32} {i v : Int32} (hc : xe_code mi pc = some (.iastore, ax)) (hp : pc + 1 = pc') (e : h[a]? = some (.inl (t, .inl x))) (ht : xe_ty[t]? = some .int) (hi : ¬ (i < 0 ∨ x.length ≤ i.toNatClampNeg)) (hs : x.set i.toNatClampNeg v = x') (kk : ∀ h', xh h a (.inl (t, .inl x')) h' → xw J ov d mi (pc', lv, st, h') Q) : xw J ov d mi (pc, lv, .int v :: .int i :: .ref a :: st, h) Q := by
  subst hs
  refine xw_on ?_ (kk _ (xh_set e (by simp [xe_w])))
  rw [xe_nx_of hc]
  subst hp
  simp only [xe_i, xe_p1, xe_pRI, xe_gw, e, if_pos ht]
  exact if_pos hi
theorem xi_bastore {a t : Nat} {x x' : List Int32} {i v : Int32} (hc : xe_code mi pc = some (.bastore, ax)) (hp : pc + 1 = pc') (e : h[a]? = some (.inl (t, .inl x))) (ht : xe_ty[t]? = some .boolean) (hi : ¬ (i < 0 ∨ x.length ≤ i.toNatClampNeg)) (hs : x.set i.toNatClampNeg (vp_nar .boolean v) = x') (kk : ∀ h', xh h a (.inl (t, .inl x')) h' → xw J ov d mi (pc', lv, st, h') Q) : xw J ov d mi (pc, lv, .int v :: .int i :: .ref a :: st, h) Q := by
  subst hs
  refine xw_on ?_ (kk _ (xh_set e (by simp [xe_w])))
  rw [xe_nx_of hc]
  subst hp
  simp only [xe_i, xe_p1, xe_pRI, xe_gw, e, if_pos ht]
  exact if_pos hi
theorem xi_lastore {a t : Nat} {x x' : List Int64} {i : Int32} {v : Int64} (hc : xe_code mi pc = some (.lastore, ax)) (hp : pc + 1 = pc') (e : h[a]? = some (.inl (t, .inr (.inl x)))) (ht : xe_ty[t]? = some .long) (hi : ¬ (i < 0 ∨ x.length ≤ i.toNatClampNeg)) (hs : x.set i.toNatClampNeg v = x') (kk : ∀ h', xh h a (.inl (t, .inr (.inl x'))) h' → xw J ov d mi (pc', lv, st, h') Q) : xw J ov d mi (pc, lv, .long v :: .int i :: .ref a :: st, h) Q := by
  subst hs
  refine xw_on ?_ (kk _ (xh_set e (by simp [xe_w])))
  rw [xe_nx_of hc]
  subst hp
  simp only [xe_i, xe_pL, xe_pRI, xe_gl, e, if_pos ht]
  exact if_pos hi
theorem xi_arraylength {a n : Nat} {v : Int32} (hc : xe_code mi pc = some (.arraylength, ax)) (hp : pc + 1 = pc') (e : xe_alen ov h a = some n) (hv : Int32.ofNat n = v) (k : xw J ov d mi (pc', lv, .int v :: st, h) Q) : xw J ov d mi (pc, lv, .ref a :: st, h) Q := by
  refine xw_on ?_ k
  rw [xe_nx_of hc]
  subst hp; subst hv
  simp only [xe_i, xe_pR, e]
  rfl
theorem xi_getstatic {n j : Nat} (hc : xe_code mi pc = some (.getstatic n, ax)) (hp : pc + 3 = pc') (hj : xe_o + ax.headD 0 = j) (k : xw J ov d mi (pc', lv, .ref j :: st, h) Q) : xw J ov d mi (pc, lv, st, h) Q := by
  refine xw_on ?_ k
  rw [xe_nx_of hc]
  subst hp; subst hj
  rfl
theorem xi_return (hc : xe_code mi pc = some (.return_, ax)) (hr : xe_mR mi = none) (k : Q none h) : xw J ov d mi (pc, lv, [], h) Q := by
  refine xw_ret (r := none) ?_ k
  rw [xe_nx_of hc]
  exact if_pos ⟨rfl, hr⟩
theorem xi_ireturn {v : Int32} {ty : FieldType} (hc : xe_code mi pc = some (.ireturn, ax)) (hr : xe_mR mi = some ty) (hn : narrow ty (.int v) = .int v) (k : Q (some (.int v)) h) : xw J ov d mi (pc, lv, [.int v], h) Q := by
  refine xw_ret (r := some (.int v)) ?_ k
  rw [xe_nx_of hc]
  simp only [xe_i, hr]
  exact if_pos hn
theorem xi_lreturn {v : Int64} (hc : xe_code mi pc = some (.lreturn, ax)) (hr : xe_mR mi = some .long) (k : Q (some (.long v)) h) : xw J ov d mi (pc, lv, [.long v], h) Q := by
  refine xw_ret (r := some (.long v)) ?_ k
  rw [xe_nx_of hc]
  exact if_pos hr
theorem xi_areturn {a : Nat} (hc : xe_code mi pc = some (.areturn, ax)) (hr : xe_isR (xe_mR mi) = true) (k : Q (some (.ref a)) h) : xw J ov d mi (pc, lv, [.ref a], h) Q := by
  refine xw_ret (r := some (.ref a)) ?_ k
  rw [xe_nx_of hc]
  exact if_pos hr
/-- a static call: what comes back goes on here -/
theorem xi_static {n mj k : Nat} {as : List Value} {st1 : List Value} {lv0 : List (Nat × Value)} (hc : xe_code mi pc = some (.invokestatic n, ax)) (h0 : ax.headD 0 = mj) (h1 : ax.getD 1 0 = k) (hk : k ≤ st.length) (ht : (st.take k).reverse = as) (hd : st.drop k = st1) (hs : (st1.map fun v : Value => v.category).sum ≤ 8) (hj : J d mj as h = none) (hca : (as.map fun v : Value => v.category).sum ≤ xe_mL mj) (hl : lv_args 0 as = lv0) (kk : xw J ov d mj (0, lv0, [], h) (fun r h' => xw J ov (d + 1) mi (pc + 3, lv, r.toList ++ st1, h') Q)) : xw J ov (d + 1) mi (pc, lv, st, h) Q := by
  subst hl; subst hd; subst ht; subst h1; subst h0
  refine xw_call ?_ hj hca kk
  rw [xe_nx_of hc]
  exact if_pos ⟨hk, hs⟩
theorem xi_virtual {n mj k b ci : Nat} {as : List Value} {st1 fs : List Value} {lv0 : List (Nat × Value)} (hc : xe_code mi pc = some (.invokevirtual n, ax)) (h0 : ax.headD 0 = mj) (h1 : ax.getD 1 0 = k) (h3 : ax.getD 3 0 = ci) (ht : (st.take k).reverse = as) (hd : st.drop k = .ref b :: st1) (e : h[b]? = some (.inr (ci, fs))) (hs : (st1.map fun v : Value => v.category).sum ≤ 8) (hj : J d mj (.ref b :: as) h = none) (hca : ((Value.ref b :: as).map fun v : Value => v.category).sum ≤ xe_mL mj) (hl : lv_args 0 (.ref b :: as) = lv0) (kk : xw J ov d mj (0, lv0, [], h) (fun r h' => xw J ov (d + 1) mi (pc + 3, lv, r.toList ++ st1, h') Q)) : xw J ov (d + 1) mi (pc, lv, st, h) Q := by
  subst hl; subst ht; subst h1; subst h0; subst h3
  refine xw_call ?_ hj hca kk
  rw [xe_nx_of hc]
  simp only [xe_i, hd, xe_pR, xe_go, e, if_true]
  exact if_pos hs
theorem xi_special {n mj k b : Nat} {as : List Value} {st1 : List Value} {lv0 : List (Nat × Value)} (hc : xe_code mi pc = some (.invokespecial n, ax)) (h0 : ax.headD 0 = mj) (hne : mj ≠ 0) (h1 : ax.getD 1 0 = k) (ht : (st.take k).reverse = as) (hd : st.drop k = .ref b :: st1) (hs : (st1.map fun v : Value => v.category).sum ≤ 8) (hj : J d mj (.ref b :: as) h = none) (hca : ((Value.ref b :: as).map fun v : Value => v.category).sum ≤ xe_mL mj) (hl : lv_args 0 (.ref b :: as) = lv0) (kk : xw J ov d mj (0, lv0, [], h) (fun r h' => xw J ov (d + 1) mi (pc + 3, lv, r.toList ++ st1, h') Q)) : xw J ov (d + 1) mi (pc, lv, st, h) Q := by
  subst hl; subst ht; subst h1; subst h0
  refine xw_call ?_ hj hca kk
  rw [xe_nx_of hc]
  simp only [xe_i, hd, xe_pR]
  rw [if_pos hs, if_neg hne]
theorem xi_objinit {n b : Nat} (hc : xe_code mi pc = some (.invokespecial n, ax)) (hp : pc + 3 = pc') (h0 : ax.headD 0 = 0) (h1 : ax.getD 1 0 = 0) (hs : (st.map fun v : Value => v.category).sum ≤ 8) (k : xw J ov d mi (pc', lv, st, h) Q) : xw J ov d mi (pc, lv, .ref b :: st, h) Q := by
  refine xw_on ?_ k
  rw [xe_nx_of hc]
  subst hp
  simp only [xe_i, h1, List.drop_zero, xe_pR]
  rw [if_pos hs, if_pos h0]
  rfl
theorem xi_new {n ci a : Nat} {fs : List Value} (hc : xe_code mi pc = some (.new n, ax)) (hp : pc + 3 = pc') (h0 : ax.headD 0 = ci) (hl : h.length = a) (ho : a < xe_o) (hf : xe_dv ci = fs) (kk : ∀ h', h'[a]? = some (.inr (ci, fs)) → (∀ j, j < a → h'[j]? = h[j]?) → h'.length = a + 1 → xe_sz h' = xe_sz h + fs.length → xw J ov d mi (pc', lv, .ref a :: st, h') Q) : xw J ov d mi (pc, lv, st, h) Q := by
  subst hl; subst hf; subst h0
  refine xw_on ?_ (kk (h ++ [.inr (ax.headD 0, xe_dv (ax.headD 0))]) (by simp) (fun j hj => List.getElem?_append_left hj) (by simp) (by rw [xe_sz_push]; rfl))
  rw [xe_nx_of hc]
  subst hp
  exact if_pos ho
theorem xi_newarrayI {t a N : Nat} {n : Int32} (hc : xe_code mi pc = some (.newarray .int, ax)) (hp : pc + 2 = pc') (h0 : ax.headD 0 = t) (hl : h.length = a) (ho : a < xe_o) (hn : ¬ n < 0) (hN : n.toNatClampNeg = N) (hm : N ≤ 60000) (kk : ∀ h', h'[a]? = some (.inl (t, .inl (List.replicate N 0))) → (∀ j, j < a → h'[j]? = h[j]?) → h'.length = a + 1 → xe_sz h' = xe_sz h + N → xw J ov d mi (pc', lv, .ref a :: st, h') Q) : xw J ov d mi (pc, lv, .int n :: st, h) Q := by
  subst hl; subst hN; subst h0
  refine xw_on ?_ (kk (h ++ [.inl (ax.headD 0, .inl (List.replicate n.toNatClampNeg 0))]) (by simp) (fun j hj => List.getElem?_append_left hj) (by simp) (by rw [xe_sz_push]; simp [xe_w]))
  rw [xe_nx_of hc]
  subst hp
  exact if_pos ⟨ho, hn, hm⟩
theorem xi_newarrayB {t a N : Nat} {n : Int32} (hc : xe_code mi pc = some (.newarray .boolean, ax)) (hp : pc + 2 = pc') (h0 : ax.headD 0 = t) (hl : h.length = a) (ho : a < xe_o) (hn : ¬ n < 0) (hN : n.toNatClampNeg = N) (hm : N ≤ 60000) (kk : ∀ h', h'[a]? = some (.inl (t, .inl (List.replicate N 0))) → (∀ j, j < a → h'[j]? = h[j]?) → h'.length = a + 1 → xe_sz h' = xe_sz h + N → xw J ov d mi (pc', lv, .ref a :: st, h') Q) : xw J ov d mi (pc, lv, .int n :: st, h) Q := by
  subst hl; subst hN; subst h0
  refine xw_on ?_ (kk (h ++ [.inl (ax.headD 0, .inl (List.replicate n.toNatClampNeg 0))]) (by simp) (fun j hj => List.getElem?_append_left hj) (by simp) (by rw [xe_sz_push]; simp [xe_w]))
  rw [xe_nx_of hc]
  subst hp
  exact if_pos ⟨ho, hn, hm⟩
theorem xi_newarrayL {t a N : Nat} {n : Int32} (hc : xe_code mi pc = some (.newarray .long, ax)) (hp : pc + 2 = pc') (h0 : ax.headD 0 = t) (hl : h.length = a) (ho : a < xe_o) (hn : ¬ n < 0) (hN : n.toNatClampNeg = N) (hm : N ≤ 60000) (kk : ∀ h', h'[a]? = some (.inl (t, .inr (.inl (List.replicate N 0)))) → (∀ j, j < a → h'[j]? = h[j]?) → h'.length = a + 1 → xe_sz h' = xe_sz h + N → xw J ov d mi (pc', lv, .ref a :: st, h') Q) : xw J ov d mi (pc, lv, .int n :: st, h) Q := by
  subst hl; subst hN; subst h0
  refine xw_on ?_ (kk (h ++ [.inl (ax.headD 0, .inr (.inl (List.replicate n.toNatClampNeg 0)))]) (by simp) (fun j hj => List.getElem?_append_left hj) (by simp) (by rw [xe_sz_push]; simp [xe_w]))
  rw [xe_nx_of hc]
  subst hp
  exact if_pos ⟨ho, hn, hm⟩
end XW
/-! comparisons by whole numbers -/
section XC
variable {x y : Int32} {X Y : Int}
theorem xc_eq_t (hx : x.toInt = X) (hy : y.toInt = Y) (h : X = Y) : xe_cmp .eq x y = true := decide_eq_true (Int32.toInt_inj.mp (by rw [hx, hy, h]))
theorem xc_eq_f (hx : x.toInt = X) (hy : y.toInt = Y) (h : ¬ X = Y) : xe_cmp .eq x y = false := decide_eq_false (fun e => h (by rw [← hx, ← hy, e]))
theorem xc_ne_t (hx : x.toInt = X) (hy : y.toInt = Y) (h : ¬ X = Y) : xe_cmp .ne x y = true := by have := xc_eq_f hx hy h; simp only [xe_cmp] at this ⊢; rw [this]; rfl
theorem xc_ne_f (hx : x.toInt = X) (hy : y.toInt = Y) (h : X = Y) : xe_cmp .ne x y = false := by have := xc_eq_t hx hy h; simp only [xe_cmp] at this ⊢; rw [this]; rfl
theorem xc_lt_t (hx : x.toInt = X) (hy : y.toInt = Y) (h : X < Y) : xe_cmp .lt x y = true := decide_eq_true (Int32.lt_iff_toInt_lt.mpr (by rw [hx, hy]; exact h))
theorem xc_lt_f (hx : x.toInt = X) (hy : y.toInt = Y) (h : ¬ X < Y) : xe_cmp .lt x y = false := decide_eq_false (fun e => h (by rw [← hx, ← hy]; exact Int32.lt_iff_toInt_lt.mp e))
theorem xc_ge_t (hx : x.toInt = X) (hy : y.toInt = Y) (h : Y ≤ X) : xe_cmp .ge x y = true := decide_eq_true (Int32.le_iff_toInt_le.mpr (by rw [hx, hy]; exact h))
theorem xc_ge_f (hx : x.toInt = X) (hy : y.toInt = Y) (h : ¬ Y ≤ X) : xe_cmp .ge x y = false := decide_eq_false (fun e => h (by rw [← hx, ← hy]; exact Int32.le_iff_toInt_le.mp e))
theorem xc_gt_t (hx : x.toInt = X) (hy : y.toInt = Y) (h : Y < X) : xe_cmp .gt x y = true := decide_eq_true (Int32.lt_iff_toInt_lt.mpr (by rw [hx, hy]; exact h))
theorem xc_gt_f (hx : x.toInt = X) (hy : y.toInt = Y) (h : ¬ Y < X) : xe_cmp .gt x y = false := decide_eq_false (fun e => h (by rw [← hx, ← hy]; exact Int32.lt_iff_toInt_lt.mp e))
theorem xc_le_t (hx : x.toInt = X) (hy : y.toInt = Y) (h : X ≤ Y) : xe_cmp .le x y = true := decide_eq_true (Int32.le_iff_toInt_le.mpr (by rw [hx, hy]; exact h))
theorem xc_le_f (hx : x.toInt = X) (hy : y.toInt = Y) (h : ¬ X ≤ Y) : xe_cmp .le x y = false := decide_eq_false (fun e => h (by rw [← hx, ← hy]; exact Int32.le_iff_toInt_le.mp e))
theorem xc_of (h : x.toInt = y.toInt) : x = y := Int32.toInt_inj.mp h
theorem xc_rng (x : Int32) : -2147483648 ≤ x.toInt ∧ x.toInt < 2147483648 := by
  have h1 := Int32.le_toInt x
  have h2 := Int32.toInt_lt x
  omega
theorem xz_add (hx : x.toInt = X) (hy : y.toInt = Y) (h1 : -2147483648 ≤ X + Y) (h2 : X + Y < 2147483648) : (x + y).toInt = X + Y := by
  rw [Int32.toInt_add, hx, hy]
  exact Int.bmod_eq_of_le (by omega) (by omega)
theorem xz_sub (hx : x.toInt = X) (hy : y.toInt = Y) (h1 : -2147483648 ≤ X - Y) (h2 : X - Y < 2147483648) : (x - y).toInt = X - Y := by
  rw [Int32.toInt_sub, hx, hy]
  exact Int.bmod_eq_of_le (by omega) (by omega)
theorem xz_mul (hx : x.toInt = X) (hy : y.toInt = Y) (h1 : -2147483648 ≤ X * Y) (h2 : X * Y < 2147483648) : (x * y).toInt = X * Y := by
  rw [Int32.toInt_mul, hx, hy]
  exact Int.bmod_eq_of_le (by omega) (by omega)
theorem xz_divt (hx : x.toInt = X) (hy : y.toInt = Y) (h : 0 < Y) : (x / y).toInt = X.tdiv Y := by
  rw [Int32.toInt_div_of_ne_right _ _ (fun e => by rw [e] at hy; rw [← hy] at h; exact absurd h (by decide)), hx, hy]
theorem xz_div (hx : x.toInt = X) (hy : y.toInt = Y) (h : 0 < Y) : Y * (x / y).toInt ≤ X + (Y - 1) ∧ X ≤ Y * (x / y).toInt + (Y - 1) := by
  rw [xz_divt hx hy h]
  have h1 := Int.mul_tdiv_add_tmod X Y
  have h2 := Int.tmod_lt_of_pos X h
  have h3 : -Y < X.tmod Y := by
    have := Int.tmod_lt_of_pos (-X) h
    rw [Int.neg_tmod] at this
    omega
  omega
theorem xz_rem (hx : x.toInt = X) (hy : y.toInt = Y) (h0 : 0 ≤ X) (h : 0 < Y) : 0 ≤ (x - x / y * y).toInt ∧ (x - x / y * y).toInt < Y := by
  have h1 := Int.mul_tdiv_add_tmod X Y
  have h2 := Int.tmod_lt_of_pos X h
  have h3 := Int.tmod_nonneg Y h0
  have h4 := xz_divt hx hy h
  have rx := xc_rng x
  have h5 : X.tdiv Y * Y = Y * X.tdiv Y := Int.mul_comm _ _
  have h8 : 0 ≤ X.tdiv Y * Y := Int.mul_nonneg (Int.tdiv_nonneg h0 (by omega)) (by omega)
  have h6 : (x / y * y).toInt = X.tdiv Y * Y := xz_mul h4 hy (by omega) (by omega)
  have h7 : (x - x / y * y).toInt = X - X.tdiv Y * Y := xz_sub hx h6 (by omega) (by omega)
  omega
theorem xa_rep {α : Type} {N : Nat} {v d0 : α} {i : Int32} (h0 : 0 ≤ i.toInt) (h1 : i.toInt < N) : (List.replicate N v).getD i.toNatClampNeg d0 = v := by
  have : i.toNatClampNeg < N := by
    have h2 : ¬ (i < 0 ∨ N ≤ i.toNatClampNeg) := xi_in h0 h1
    omega
  rw [List.getD_eq_getElem?_getD, List.getElem?_replicate, if_pos this]
  rfl
end XC
