/-! Typed heaps; places that are unchanged -/
theorem xj_nat {i : Int32} {n : Nat} (h0 : 0 ≤ i.toInt) (h1 : i.toInt < n) : i.toNatClampNeg < n := by
  have h := xi_in h0 h1
  by_cases q : n ≤ i.toNatClampNeg
  · exact absurd (Or.inr q) h
  · omega
theorem xj_get {y : List Int32} {n : Nat} {lo hi : Int} (hy : y.length = n) (ry : ∀ i, i < n → lo ≤ (y.getD i 0).toInt ∧ (y.getD i 0).toInt ≤ hi) {i : Int32} (h0 : 0 ≤ i.toInt) (h1 : i.toInt < n) : ∃ v : Int32, y.getD i.toNatClampNeg 0 = v ∧ lo ≤ v.toInt ∧ v.toInt ≤ hi :=
  ⟨_, rfl, (ry _ (xj_nat h0 h1)).1, (ry _ (xj_nat h0 h1)).2⟩
theorem xj_set {y : List Int32} {n : Nat} {lo hi : Int} (hy : y.length = n) (ry : ∀ i, i < n → lo ≤ (y.getD i 0).toInt ∧ (y.getD i 0).toInt ≤ hi) {v : Int32} (i : Int32) (h0 : lo ≤ v.toInt) (h1 : v.toInt ≤ hi) : ∃ y' : List Int32, y.set i.toNatClampNeg v = y' ∧ y'.length = n ∧ ∀ k, k < n → lo ≤ (y'.getD k 0).toInt ∧ (y'.getD k 0).toInt ≤ hi := by
  refine ⟨_, rfl, by rw [List.length_set]; exact hy, fun k hk => ?_⟩
  rw [List.getD_eq_getElem?_getD]
  by_cases q : i.toNatClampNeg = k
  · rw [q, List.getElem?_set_self (by rw [hy]; exact hk)]
    exact ⟨h0, h1⟩
  · rw [List.getElem?_set_ne q, ← List.getD_eq_getElem?_getD]
    exact ry k hk
theorem xj_lset {y : List Int64} {n : Nat} {v : Int64} (hy : y.length = n) (i : Int32) : ∃ y' : List Int64, y.set i.toNatClampNeg v = y' ∧ y'.length = n := ⟨_, rfl, by rw [List.length_set]; exact hy⟩
theorem xj_fill {n : Nat} {v : Int32} {lo hi : Int} (h0 : lo ≤ v.toInt) (h1 : v.toInt ≤ hi) : ∀ k, k < n → lo ≤ ((List.replicate n v).getD k 0).toInt ∧ ((List.replicate n v).getD k 0).toInt ≤ hi := by
  intro k hk
  rw [List.getD_eq_getElem?_getD, List.getElem?_replicate, if_pos hk]
  exact ⟨h0, h1⟩
theorem xz_dive {x y : Int32} {X Y : Int} (hx : x.toInt = X) (hy : y.toInt = Y) (h0 : 0 ≤ X) (h : 0 < Y) : (x / y).toInt = X / Y := by
  rw [xz_divt hx hy h, Int.tdiv_eq_ediv_of_nonneg h0]
theorem xz_reme {x y : Int32} {X Y : Int} (hx : x.toInt = X) (hy : y.toInt = Y) (h0 : 0 ≤ X) (h : 0 < Y) : (x - x / y * y).toInt = X % Y := by
  have hd := xz_dive hx hy h0 h
  have hX := xc_rng x
  rw [hx] at hX
  have h1 : Y * (X / Y) ≤ X := Int.mul_ediv_self_le (by omega)
  have h2 : 0 ≤ X / Y := Int.ediv_nonneg h0 (by omega)
  have h3 : 0 ≤ Y * (X / Y) := Int.mul_nonneg (by omega) h2
  have hm : (x / y * y).toInt = X / Y * Y := xz_mul hd hy (by rw [Int.mul_comm]; omega) (by rw [Int.mul_comm]; omega)
  have hs : (x - x / y * y).toInt = X - X / Y * Y := xz_sub hx hm (by rw [Int.mul_comm (X / Y)]; omega) (by rw [Int.mul_comm (X / Y)]; omega)
  rw [hs, Int.emod_def, Int.mul_comm Y]
theorem xz_xor {x y : Int32} (hx : 0 ≤ x.toInt) (hy : 0 ≤ y.toInt) : 0 ≤ (x ^^^ y).toInt := by
  have h : (x ^^^ y).toBitVec.msb = false := by
    rw [Int32.toBitVec_xor, BitVec.msb_xor, BitVec.msb_eq_toInt, BitVec.msb_eq_toInt]
    have e1 : decide (x.toBitVec.toInt < 0) = false := decide_eq_false (Int.not_lt.mpr hx)
    have e2 : decide (y.toBitVec.toInt < 0) = false := decide_eq_false (Int.not_lt.mpr hy)
    rw [e1, e2]
    rfl
  rw [BitVec.msb_eq_toInt] at h
  exact Int.not_lt.mp (of_decide_eq_false h)
theorem xz_neg {x : Int32} {X : Int} (hx : x.toInt = X) (h : -2147483648 < X) : (-x).toInt = -X := by
  have hr := xc_rng x
  have h1 := xz_sub (x := 0) (y := x) (X := 0) (Y := X) rfl hx (by omega) (by omega)
  rw [Int32.zero_sub] at h1
  omega
theorem xj_nz {y : Int32} (h : y.toInt ≠ 0) : y ≠ 0 := fun e => h (by rw [e]; rfl)
theorem xj_l0 {x : Int32} {v : Int64} (e : x.toInt64 = v) (h : x.toInt ≠ 0) : v ≠ 0 := by
  intro q
  apply h
  have h1 : x.toInt64.toInt = 0 := by rw [e, q]; rfl
  simpa using h1
theorem xj_lc {x : Int64} {v : Int32} (e : lg_cmp x 0 = v) (h : v.toInt ≠ 0) : x ≠ 0 := by
  intro q
  apply h
  rw [← e, q]
  decide
theorem xj_shl6 {y : Int32} (h0 : 0 ≤ y.toInt) (h1 : y.toInt ≤ 6) : 1 ≤ ((1 : Int32) <<< (y &&& 31)).toInt ∧ ((1 : Int32) <<< (y &&& 31)).toInt ≤ 64 := by
  have h : y = 0 ∨ y = 1 ∨ y = 2 ∨ y = 3 ∨ y = 4 ∨ y = 5 ∨ y = 6 := by
    have q : ∀ z : Int32, y.toInt = z.toInt → y = z := fun z e => xc_of e
    have h2 : y.toInt = 0 ∨ y.toInt = 1 ∨ y.toInt = 2 ∨ y.toInt = 3 ∨ y.toInt = 4 ∨ y.toInt = 5 ∨ y.toInt = 6 := by omega
    rcases h2 with e | e | e | e | e | e | e
    · exact Or.inl (q 0 e)
    · exact Or.inr (Or.inl (q 1 e))
    · exact Or.inr (Or.inr (Or.inl (q 2 e)))
    · exact Or.inr (Or.inr (Or.inr (Or.inl (q 3 e))))
    · exact Or.inr (Or.inr (Or.inr (Or.inr (Or.inl (q 4 e)))))
    · exact Or.inr (Or.inr (Or.inr (Or.inr (Or.inr (Or.inl (q 5 e))))))
    · exact Or.inr (Or.inr (Or.inr (Or.inr (Or.inr (Or.inr (q 6 e))))))
  rcases h with rfl | rfl | rfl | rfl | rfl | rfl | rfl <;> decide
def xt (h : xe_H) : Prop := ∀ (k : Nat) (d : xt_D), xT[k]? = some d → ∃ x, h[k]? = some x ∧ xt_c d x
/-- what lies at a place: a field of an object, or a whole row -/
def xl (h : xe_H) (l : Nat × Nat) : Option (Value ⊕ (Nat × xe_A)) := match h[l.1]? with
  | some (.inr q) => (q.2[l.2]?).map Sum.inl
  | some (.inl a) => some (.inr a)
  | none => none
theorem xl_of {h : xe_H} {k q ci : Nat} {fs : List Value} {v : Value} (A : h[k]? = some (.inr (ci, fs))) (hv : fs[q]? = some v) : xl h (k, q) = some (.inl v) := by
  unfold xl
  rw [A]
  dsimp only
  rw [hv]
  rfl
theorem xl_val {h : xe_H} {k q ci : Nat} {fs : List Value} {u v : Int32} (A : h[k]? = some (.inr (ci, fs))) (hu : fs[q]? = some (.int u)) (e : xl h (k, q) = some (.inl (.int v))) : u = v := by
  rw [xl_of A hu] at e
  cases e
  rfl
theorem xl_arr {h : xe_H} {k q t : Nat} {a : xe_A} (A : h[k]? = some (.inl (t, a))) : xl h (k, q) = some (.inr (t, a)) := by
  unfold xl
  rw [A]
theorem xl_arr_inv {h : xe_H} {k q t : Nat} {a : xe_A} (e : xl h (k, q) = some (.inr (t, a))) : h[k]? = some (.inl (t, a)) := by
  unfold xl at e
  dsimp only at e
  cases hq : h[k]? with
  | none => rw [hq] at e; cases e
  | some x =>
    rw [hq] at e
    cases x with
    | inl b => cases e; rfl
    | inr b =>
      dsimp only at e
      cases hz : b.2[q]? with
      | none => rw [hz] at e; cases e
      | some z => rw [hz] at e; cases e
theorem xl_eqf {h : xe_H} {k q ci k2 q2 ci2 : Nat} {fs fs2 : List Value} {u v : Int32} (e : xl h (k, q) = xl h (k2, q2)) (A : h[k]? = some (.inr (ci, fs))) (A2 : h[k2]? = some (.inr (ci2, fs2))) (hu : fs[q]? = some (.int u)) (hv : fs2[q2]? = some (.int v)) : u = v := by
  rw [xl_of A hu, xl_of A2 hv] at e
  cases e
  rfl
theorem xl_eqa {h : xe_H} {k q t k2 q2 t2 : Nat} {y y2 : List Int32} (e : xl h (k, q) = xl h (k2, q2)) (A : h[k]? = some (.inl (t, .inl y))) (A2 : h[k2]? = some (.inl (t2, .inl y2))) : y = y2 := by
  rw [xl_arr A, xl_arr A2] at e
  cases e
  rfl
/-- typed; what lies at the places of P is as in hb; as many cells, as many slots -/
def xk (P : List (Nat × Nat)) (hb h : xe_H) : Prop := xt h ∧ (∀ l : Nat × Nat, List.elem l P = true → xl h l = xl hb l) ∧ h.length = hb.length ∧ xe_sz h = xe_sz hb
theorem xk_re {P : List (Nat × Nat)} {h : xe_H} (T : xt h) : xk P h h := ⟨T, fun _ _ => rfl, rfl, rfl⟩
theorem xk_el {P P1 : List (Nat × Nat)} (hw : P.all (fun a => List.elem a P1) = true) {l : Nat × Nat} (hl : List.elem l P = true) : List.elem l P1 = true :=
  List.all_eq_true.mp hw l (by simpa using hl)
theorem xk_tr {P P1 : List (Nat × Nat)} {hb h h1 : xe_H} (K : xk P hb h) (K1 : xk P1 h h1) (hw : P.all (fun a => List.elem a P1) = true) : xk P hb h1 :=
  ⟨K1.1, fun l hl => (K1.2.1 l (xk_el hw hl)).trans (K.2.1 l hl), K1.2.2.1.trans K.2.2.1, K1.2.2.2.trans K.2.2.2⟩
theorem xk_put {P : List (Nat × Nat)} {hb h h' : xe_H} {a : Nat} {x : xe_E} (K : xk P hb h) (e : xh h a x h') (hx : ∀ d, xT[a]? = some d → xt_c d x) (hp : ∀ l : Nat × Nat, List.elem l P = true → l.1 = a → xl h' l = xl h l) : xk P hb h' := by
  refine ⟨fun k d hd => ?_, fun l hl => ?_, e.2.2.1.trans K.2.2.1, e.2.2.2.trans K.2.2.2⟩
  · by_cases hka : k = a
    · subst hka
      exact ⟨x, e.1, hx d hd⟩
    · obtain ⟨y, h1, h2⟩ := K.1 k d hd
      exact ⟨y, (e.2.1 k hka).trans h1, h2⟩
  · refine Eq.trans ?_ (K.2.1 l hl)
    by_cases hka : l.1 = a
    · exact hp l hl hka
    · unfold xl
      rw [e.2.1 l.1 hka]
theorem xk_pv {P : List (Nat × Nat)} {hb h h' : xe_H} {a ci k : Nat} {ds : List xt_F} {d : xt_F} {fs fs' : List Value} {v : Value} (K : xk P hb h) (hW : ∀ l : Nat × Nat, List.elem l P = true → l.1 = a → l.2 ≠ k) (hD : xT[a]? = some (.inl (ci, ds))) (A : h[a]? = some (.inr (ci, fs))) (hk : ds[k]? = some d) (hv : xt_f d v) (e : xh h a (.inr (ci, fs')) h') (hs : fs.set k v = fs') : xk P hb h' := by
  refine xk_put K e (fun d' hd' => ?_) (fun l hl ha => ?_)
  · obtain ⟨x, h1, h2⟩ := K.1 a _ hD
    rw [hD] at hd'
    cases hd'
    rw [A] at h1
    cases h1
    obtain ⟨fs0, h3, h4⟩ := h2
    cases h3
    exact ⟨fs', rfl, by rw [← hs]; exact xt_set _ _ _ _ _ h4 hk hv⟩
  · have hne := hW l hl ha
    unfold xl
    rw [ha, e.1, A]
    dsimp only
    rw [← hs, List.getElem?_set_ne (Ne.symm hne)]
theorem xk_pf {P : List (Nat × Nat)} {hb h h' : xe_H} {a ci k : Nat} {ds : List xt_F} {lo hi : Int} {fs fs' : List Value} {v : Int32} (K : xk P hb h) (hW : ∀ l : Nat × Nat, List.elem l P = true → l.1 = a → l.2 ≠ k) (hD : xT[a]? = some (.inl (ci, ds))) (A : h[a]? = some (.inr (ci, fs))) (hk : ds[k]? = some (.inr (some (lo, hi)))) (h1 : lo ≤ v.toInt) (h2 : v.toInt ≤ hi) (e : xh h a (.inr (ci, fs')) h') (hs : fs.set k (.int v) = fs') : xk P hb h' :=
  xk_pv K hW hD A hk ⟨v, rfl, h1, h2⟩ e hs
theorem xk_pl {P : List (Nat × Nat)} {hb h h' : xe_H} {a ci k : Nat} {ds : List xt_F} {fs fs' : List Value} {v : Int64} (K : xk P hb h) (hW : ∀ l : Nat × Nat, List.elem l P = true → l.1 = a → l.2 ≠ k) (hD : xT[a]? = some (.inl (ci, ds))) (A : h[a]? = some (.inr (ci, fs))) (hk : ds[k]? = some (.inr none)) (e : xh h a (.inr (ci, fs')) h') (hs : fs.set k (.long v) = fs') : xk P hb h' :=
  xk_pv K hW hD A hk ⟨v, rfl⟩ e hs
theorem xk_pa {P : List (Nat × Nat)} {hb h h' : xe_H} {a t n : Nat} {lo hi : Int} {y : List Int32} (K : xk P hb h) (hW : ∀ l : Nat × Nat, List.elem l P = true → l.1 ≠ a) (hD : xT[a]? = some (.inr (.inl (t, n, lo, hi)))) (hy : y.length = n) (ry : ∀ i, i < n → lo ≤ (y.getD i 0).toInt ∧ (y.getD i 0).toInt ≤ hi) (e : xh h a (.inl (t, .inl y)) h') : xk P hb h' := by
  refine xk_put K e (fun d' hd' => ?_) (fun l hl ha => absurd ha (hW l hl))
  rw [hD] at hd'
  cases hd'
  exact ⟨y, rfl, hy, ry⟩
theorem xk_pla {P : List (Nat × Nat)} {hb h h' : xe_H} {a t n : Nat} {y : List Int64} (K : xk P hb h) (hW : ∀ l : Nat × Nat, List.elem l P = true → l.1 ≠ a) (hD : xT[a]? = some (.inr (.inr (.inl (t, n))))) (hy : y.length = n) (e : xh h a (.inl (t, .inr (.inl y))) h') : xk P hb h' := by
  refine xk_put K e (fun d' hd' => ?_) (fun l hl ha => absurd ha (hW l hl))
  rw [hD] at hd'
  cases hd'
  exact ⟨y, rfl, hy⟩
theorem xk_arr {h : xe_H} (T : xt h) {a t n : Nat} {lo hi : Int} (hD : xT[a]? = some (.inr (.inl (t, n, lo, hi)))) : ∃ y : List Int32, h[a]? = some (.inl (t, .inl y)) ∧ y.length = n ∧ ∀ i, i < n → lo ≤ (y.getD i 0).toInt ∧ (y.getD i 0).toInt ≤ hi := by
  obtain ⟨x, h1, l, h2, h3, h4⟩ := T a _ hD
  exact ⟨l, by rw [h1, h2], h3, h4⟩
theorem xk_larr {h : xe_H} (T : xt h) {a t n : Nat} (hD : xT[a]? = some (.inr (.inr (.inl (t, n))))) : ∃ y : List Int64, h[a]? = some (.inl (t, .inr (.inl y))) ∧ y.length = n := by
  obtain ⟨x, h1, l, h2, h3⟩ := T a _ hD
  exact ⟨l, by rw [h1, h2], h3⟩
theorem xk_ex {h : xe_H} (T : xt h) {a : Nat} {x : xe_E} (hD : xT[a]? = some (.inr (.inr (.inr x)))) : h[a]? = some x := by
  obtain ⟨y, h1, h2⟩ := T a _ hD
  have h3 : y = x := h2
  rw [h1, h3]
theorem xk_obj {h : xe_H} (T : xt h) {a ci : Nat} {ds : List xt_F} (hD : xT[a]? = some (.inl (ci, ds))) : ∃ fs : List Value, h[a]? = some (.inr (ci, fs)) ∧ xt_all ds fs := by
  obtain ⟨x, h1, fs, h2, h3⟩ := T a _ hD
  exact ⟨fs, by rw [h1, h2], h3⟩
/-- a place that a call has left as it was -/
theorem xk_eqi {P : List (Nat × Nat)} {h h1 : xe_H} {k q ci ci1 : Nat} {fs fs1 : List Value} {u v : Int32} (K : xk P h h1) (hl : List.elem (k, q) P = true) (A : h[k]? = some (.inr (ci, fs))) (A1 : h1[k]? = some (.inr (ci1, fs1))) (hu : fs[q]? = some (.int u)) (hv : fs1[q]? = some (.int v)) : u = v := by
  have h0 := K.2.1 _ hl
  rw [xl_of A hu, xl_of A1 hv] at h0
  cases h0
  rfl
theorem xk_eqa {P : List (Nat × Nat)} {h h1 : xe_H} {k q t : Nat} {a : xe_A} (K : xk P h h1) (hl : List.elem (k, q) P = true) (A : h[k]? = some (.inl (t, a))) : h1[k]? = some (.inl (t, a)) := by
  have h0 := K.2.1 _ hl
  rw [xl_arr A] at h0
  exact xl_arr_inv h0
theorem xk_wf {P : List (Nat × Nat)} {a k : Nat} (hw : P.all (fun l => !(Nat.beq l.1 a && Nat.beq l.2 k)) = true) : ∀ l : Nat × Nat, List.elem l P = true → l.1 = a → l.2 ≠ k := by
  intro l hl ha hk
  have h1 := List.all_eq_true.mp hw l (by simpa using hl)
  subst ha; subst hk
  simp at h1
theorem xk_wa {P : List (Nat × Nat)} {a : Nat} (hw : P.all (fun l => !(Nat.beq l.1 a)) = true) : ∀ l : Nat × Nat, List.elem l P = true → l.1 ≠ a := by
  intro l hl ha
  have h1 := List.all_eq_true.mp hw l (by simpa using hl)
  subst ha
  simp at h1
theorem xk_gf {P : List (Nat × Nat)} {grp : List Nat} {a k : Nat} (ha : List.elem a grp = true) (hw : P.all (fun l => !(List.elem l.1 grp && Nat.beq l.2 k)) = true) : ∀ l : Nat × Nat, List.elem l P = true → l.1 = a → l.2 ≠ k := by
  intro l hl hq hk
  have h1 := List.all_eq_true.mp hw l (by simpa using hl)
  rw [hq, ha, hk] at h1
  simp at h1
theorem xk_ga {P : List (Nat × Nat)} {grp : List Nat} {a : Nat} (ha : List.elem a grp = true) (hw : P.all (fun l => !(List.elem l.1 grp)) = true) : ∀ l : Nat × Nat, List.elem l P = true → l.1 ≠ a := by
  intro l hl hq
  have h1 := List.all_eq_true.mp hw l (by simpa using hl)
  rw [hq, ha] at h1
  cases h1
theorem xk_nc {grp : List Nat} {a c : Nat} (ha : List.elem a grp = true) (hc : List.elem c grp = false) : c ≠ a := by
  intro h
  subst h
  rw [ha] at hc
  cases hc
theorem xk_nn {g1 g2 : List Nat} {a b : Nat} (ha : List.elem a g1 = true) (hb : List.elem b g2 = true) (hd : g1.all (fun x => !List.elem x g2) = true) : a ≠ b := by
  intro h
  subst h
  have h1 := List.all_eq_true.mp hd a (by simpa using ha)
  rw [hb] at h1
  cases h1
theorem xk_lo {grp : List Nat} {a : Nat} (ha : List.elem a grp = true) (hw : grp.all (fun x => Nat.blt x xe_o) = true) : a < xe_o := by
  have h1 := List.all_eq_true.mp hw a (by simpa using ha)
  exact Nat.le_of_ble_eq_true h1
theorem xl_lenL {ov : List (List Int32)} {h : xe_H} {a n t : Nat} {x : List Int64} (ha : a < xe_o) (ht : t < xe_ty.length) (e : h[a]? = some (.inl (t, .inr (.inl x)))) (hn : x.length = n) : xe_alen ov h a = some n := by
  unfold xe_alen
  rw [if_pos ha, e]
  exact (if_pos ht).trans (congrArg some hn)
theorem lvS_nil {a : List (Nat × Value)} (h : (a.map fun q => q.1).Nodup) : lvS a [] := ⟨fun q hq => (by cases hq), h⟩
theorem lvS_cons {a b : List (Nat × Value)} {i : Nat} {v : Value} (hS : lvS a b) (h : xe_ld a i = some v) : lvS a ((i, v) :: b) := ⟨fun q hq => by
  rcases List.mem_cons.mp hq with e | e
  · rw [e]; exact xe_ld_mem h
  · exact hS.1 q e, hS.2⟩
section XJ
variable {J : xe_J} {ov : List (List Int32)} {d mi : Nat} {Q : Option Value → xe_H → Prop}
variable {pc pc' : Nat} {ax : List Nat} {lv lv' : List (Nat × Value)} {st : List Value} {h : xe_H}
theorem xj_aaload {a t b : Nat} {C : String} {x : List (Option Nat)} {i : Int32} (hc : xe_code mi pc = some (.aaload, ax)) (hp : pc + 1 = pc') (e : h[a]? = some (.inl (t, .inr (.inr x)))) (ht : xe_ty[t]? = some (.object C)) (hi : ¬ (i < 0 ∨ x.length ≤ i.toNatClampNeg)) (hv : va_rf (x.getD i.toNatClampNeg none) = .ref b) (k : xw J ov d mi (pc', lv, .ref b :: st, h) Q) : xw J ov d mi (pc, lv, .int i :: .ref a :: st, h) Q := by
  refine xw_on ?_ k
  rw [xe_nx_of hc]
  subst hp
  simp only [xe_i, xe_pRI, xe_gq, e, ht, hv]
  exact if_pos hi
theorem xj_pop2 {v : Value} (hc : xe_code mi pc = some (.pop2, ax)) (hp : pc + 1 = pc') (hv : v.category = 2) (k : xw J ov d mi (pc', lv, st, h) Q) : xw J ov d mi (pc, lv, v :: st, h) Q := by
  refine xw_on ?_ k
  rw [xe_nx_of hc]
  subst hp
  exact if_pos hv
end XJ
/-! Relations of rows: one is a stretch of the other; a field is an element -/
def xE (a b : Option (Value ⊕ (Nat × xe_A))) (off n : Nat) : Prop := ∃ (t1 t2 : Nat) (y1 y2 : List Int32), a = some (.inr (t1, .inl y1)) ∧ b = some (.inr (t2, .inl y2)) ∧ ∀ i, i < n → y1.getD i 0 = y2.getD (off + i) 0
def xFE (a b : Option (Value ⊕ (Nat × xe_A))) (i : Nat) : Prop := ∃ (u : Int32) (t : Nat) (y : List Int32), a = some (.inl (.int u)) ∧ b = some (.inr (t, .inl y)) ∧ y.getD i 0 = u
theorem xE_of {h : xe_H} {k q k2 q2 off n t t2 : Nat} {y y2 : List Int32} (e : xE (xl h (k, q)) (xl h (k2, q2)) off n) (A : h[k]? = some (.inl (t, .inl y))) (A2 : h[k2]? = some (.inl (t2, .inl y2))) : ∀ i, i < n → y.getD i 0 = y2.getD (off + i) 0 := by
  obtain ⟨s1, s2, z1, z2, e1, e2, e3⟩ := e
  rw [xl_arr A] at e1
  rw [xl_arr A2] at e2
  cases e1; cases e2
  exact e3
theorem xE_mk {h : xe_H} {k q k2 q2 off n t t2 : Nat} {y y2 : List Int32} (A : h[k]? = some (.inl (t, .inl y))) (A2 : h[k2]? = some (.inl (t2, .inl y2))) (H : ∀ i, i < n → y.getD i 0 = y2.getD (off + i) 0) : xE (xl h (k, q)) (xl h (k2, q2)) off n := ⟨t, t2, y, y2, xl_arr A, xl_arr A2, H⟩
theorem xFE_of {h : xe_H} {k q k2 q2 i t ci : Nat} {fs : List Value} {u : Int32} {y : List Int32} (e : xFE (xl h (k, q)) (xl h (k2, q2)) i) (A : h[k]? = some (.inr (ci, fs))) (A2 : h[k2]? = some (.inl (t, .inl y))) (hu : fs[q]? = some (.int u)) : y.getD i 0 = u := by
  obtain ⟨v, s, z, e1, e2, e3⟩ := e
  rw [xl_of A hu] at e1
  rw [xl_arr A2] at e2
  cases e1; cases e2
  exact e3
theorem xFE_mk {h : xe_H} {k q k2 q2 i t ci : Nat} {fs : List Value} {u : Int32} {y : List Int32} (A : h[k]? = some (.inr (ci, fs))) (A2 : h[k2]? = some (.inl (t, .inl y))) (hu : fs[q]? = some (.int u)) (H : y.getD i 0 = u) : xFE (xl h (k, q)) (xl h (k2, q2)) i := ⟨u, t, y, xl_of A hu, xl_arr A2, H⟩
theorem xj_tn {i : Int32} (h0 : 0 ≤ i.toInt) : (i.toNatClampNeg : Int) = i.toInt := by
  have h1 := xj_nat (n := i.toInt.toNat + 1) h0 (by omega)
  have h2 : i.toInt.toNat ≤ i.toNatClampNeg := by
    by_cases q : i.toNatClampNeg < i.toInt.toNat
    · exfalso
      have h3 : ¬ (i < 0 ∨ i.toInt.toNat ≤ i.toNatClampNeg) := fun h => h.elim (fun h => by have := Int32.lt_iff_toInt_lt.mp h; simp at this; omega) (fun h => by omega)
      have h4 := (vp_in_iff (x := i) (n := i.toInt.toNat)).mp h3
      omega
    · omega
  omega
theorem xE_ld {y1 y2 : List Int32} {off n : Nat} (H : ∀ i, i < n → y1.getD i 0 = y2.getD (off + i) 0) {i w v : Int32} (h0 : 0 ≤ i.toInt) (h1 : i.toInt < n) (hw : w.toInt = off + i.toInt) (e : y1.getD i.toNatClampNeg 0 = v) : y2.getD w.toNatClampNeg 0 = v := by
  have e1 := xj_tn h0
  have e2 := xj_tn (i := w) (by omega)
  rw [← e, H _ (by omega), show off + i.toNatClampNeg = w.toNatClampNeg by omega]
theorem xj_gs {y : List Int32} {k j : Nat} {v : Int32} : (y.set k v).getD j 0 = if k = j ∧ j < y.length then v else y.getD j 0 := by
  rw [List.getD_eq_getElem?_getD, List.getD_eq_getElem?_getD, List.getElem?_set]
  by_cases q : k = j
  · subst q
    by_cases q2 : k < y.length
    · simp [q2]
    · simp [q2]
  · simp [q]
theorem xE_set {y1 y2 z1 z2 : List Int32} {off n : Nat} (H : ∀ i, i < n → y1.getD i 0 = y2.getD (off + i) 0) {i w v : Int32} (h0 : 0 ≤ i.toInt) (hw : w.toInt = off + i.toInt) (l1 : n ≤ y1.length) (l2 : off + n ≤ y2.length) (s1 : y1.set i.toNatClampNeg v = z1) (s2 : y2.set w.toNatClampNeg v = z2) : ∀ j, j < n → z1.getD j 0 = z2.getD (off + j) 0 := by
  have e1 := xj_tn h0
  have e2 := xj_tn (i := w) (by omega)
  intro j hj
  rw [← s1, ← s2, xj_gs, xj_gs]
  by_cases q : i.toNatClampNeg = j
  · rw [if_pos ⟨q, by omega⟩, if_pos ⟨by omega, by omega⟩]
  · rw [if_neg (fun z => q z.1), if_neg (fun z => q (by omega)), H j hj]
theorem xE_oth {y1 y2 z2 : List Int32} {off n : Nat} (H : ∀ i, i < n → y1.getD i 0 = y2.getD (off + i) 0) {w v : Int32} (h0 : 0 ≤ w.toInt) (hw : w.toInt < off ∨ off + n ≤ w.toInt) (s2 : y2.set w.toNatClampNeg v = z2) : ∀ j, j < n → y1.getD j 0 = z2.getD (off + j) 0 := by
  have e2 := xj_tn h0
  intro j hj
  rw [← s2, xj_gs, if_neg (fun z => by omega), H j hj]
theorem xFE_ld {y : List Int32} {n : Nat} {i u : Int32} (H : y.getD n 0 = u) (hi : i.toNatClampNeg = n) : y.getD i.toNatClampNeg 0 = u := by rw [hi]; exact H
theorem xFE_hit {y z : List Int32} {n : Nat} {i v : Int32} (hi : i.toNatClampNeg = n) (hl : n < y.length) (s : y.set i.toNatClampNeg v = z) : z.getD n 0 = v := by
  rw [← s, xj_gs, if_pos ⟨hi, hl⟩]
theorem xFE_miss {y z : List Int32} {n : Nat} {i u v : Int32} (H : y.getD n 0 = u) (hi : i.toNatClampNeg ≠ n) (s : y.set i.toNatClampNeg v = z) : z.getD n 0 = u := by
  rw [← s, xj_gs, if_neg (fun q => hi q.1), H]
theorem xj_shl24 {y : Int32} (h0 : 0 ≤ y.toInt) (h1 : y.toInt ≤ 24) : 1 ≤ ((1 : Int32) <<< (y &&& 31)).toInt ∧ ((1 : Int32) <<< (y &&& 31)).toInt ≤ 16777216 := by
  have hk : ∀ n : Fin 25, 1 ≤ ((1 : Int32) <<< (Int32.ofNat n.val &&& 31)).toInt ∧ ((1 : Int32) <<< (Int32.ofNat n.val &&& 31)).toInt ≤ 16777216 := by decide +kernel
  have e : Int32.ofNat y.toInt.toNat = y := xc_of (by rw [show (Int32.ofNat y.toInt.toNat).toInt = (y.toInt.toNat : Int) from nI_toInt (by omega)]; omega)
  have := hk ⟨y.toInt.toNat, by omega⟩
  rw [show (Int32.ofNat ((⟨y.toInt.toNat, by omega⟩ : Fin 25)).val) = y from e] at this
  exact this
/-- the fields of a group's objects are the elements of a row -/
def xGR (h : xe_H) (G : List Nat) (q k2 : Nat) : Prop := ∀ n, n < G.length → xFE (xl h (G.getD n 0, q)) (xl h (k2, 0)) n
theorem xGR_ld {h : xe_H} {G : List Nat} {Lo : List (Option Nat)} {q k2 p t ci : Nat} {fs : List Value} {u : Int32} {y : List Int32} (I : xGR h G q k2) (hG : G.map some = Lo) {i : Int32} (e : va_rf (Lo.getD i.toNatClampNeg none) = .ref p) (h0 : 0 ≤ i.toInt) (h1 : i.toInt < G.length) (A : h[p]? = some (.inr (ci, fs))) (hu : fs[q]? = some (.int u)) (A2 : h[k2]? = some (.inl (t, .inl y))) : y.getD i.toNatClampNeg 0 = u := by
  have hn := xj_nat h0 h1
  have h2 := I _ hn
  have e2 : G.getD i.toNatClampNeg 0 = p := by
    rw [← hG, List.getD_eq_getElem?_getD, List.getElem?_map, List.getElem?_eq_getElem hn] at e
    rw [List.getD_eq_getElem?_getD, List.getElem?_eq_getElem hn]
    simpa [va_rf] using e
  rw [e2] at h2
  exact xFE_of h2 A A2 hu
theorem xGR_mem {G : List Nat} {n : Nat} (hn : n < G.length) : List.elem (G.getD n 0) G = true := by
  rw [List.getD_eq_getElem?_getD, List.getElem?_eq_getElem hn]
  simp
theorem xGR_kept {h h' : xe_H} {G : List Nat} {q k2 : Nat} (I : xGR h G q k2) (F : ∀ c, List.elem c G = true → h'[c]? = h[c]?) (F2 : h'[k2]? = h[k2]?) : xGR h' G q k2 := by
  intro n hn
  have h1 := I n hn
  have e1 : xl h' (G.getD n 0, q) = xl h (G.getD n 0, q) := by unfold xl; rw [F _ (xGR_mem hn)]
  have e2 : xl h' (k2, 0) = xl h (k2, 0) := by unfold xl; rw [F2]
  rw [e1, e2]
  exact h1
theorem xGR_fr {h h' : xe_H} {G : List Nat} {q k2 : Nat} {P : List (Nat × Nat)} (I : xGR h G q k2) (F : ∀ l : Nat × Nat, List.elem l P = true → xl h' l = xl h l) (hP : G.all (fun c => List.elem (c, q) P) = true) (h2 : List.elem (k2, 0) P = true) : xGR h' G q k2 := by
  intro n hn
  have h1 := I n hn
  rw [F _ (List.all_eq_true.mp hP _ (by simpa using xGR_mem hn)), F _ h2]
  exact h1
theorem xGR_set {h h' : xe_H} {G : List Nat} {Lo : List (Option Nat)} {q k2 p t ci : Nat} {fs : List Value} {v : Int32} {y z : List Int32} (I : xGR h G q k2) (hd : ∀ a, a < G.length → ∀ b, b < G.length → G.getD a 0 = G.getD b 0 → a = b) (hG : G.map some = Lo) {i : Int32} (e : va_rf (Lo.getD i.toNatClampNeg none) = .ref p) (h0 : 0 ≤ i.toInt) (h1 : i.toInt < G.length) (A0 : h[k2]? = some (.inl (t, .inl y))) (hl : G.length ≤ y.length) (A : h'[p]? = some (.inr (ci, fs))) (hu : fs[q]? = some (.int v)) (A2 : h'[k2]? = some (.inl (t, .inl z))) (s : y.set i.toNatClampNeg v = z) (F : ∀ c, List.elem c G = true → c ≠ p → h'[c]? = h[c]?) : xGR h' G q k2 := by
  have hn := xj_nat h0 h1
  have e2 : G.getD i.toNatClampNeg 0 = p := by
    rw [← hG, List.getD_eq_getElem?_getD, List.getElem?_map, List.getElem?_eq_getElem hn] at e
    rw [List.getD_eq_getElem?_getD, List.getElem?_eq_getElem hn]
    simpa [va_rf] using e
  intro n hn'
  by_cases hq : i.toNatClampNeg = n
  · subst hq
    rw [e2]
    exact xFE_mk A A2 hu (xFE_hit rfl (by omega) s)
  · have hne : G.getD n 0 ≠ p := by
      intro hh
      apply hq
      exact (hd _ hn' _ hn (hh.trans e2.symm)).symm
    have h3 := I n hn'
    obtain ⟨u, t', y', q1, q2, q3⟩ := h3
    rw [xl_arr A0] at q2
    cases q2
    refine ⟨u, t, z, ?_, xl_arr A2, xFE_miss q3 hq s⟩
    rw [← q1]
    unfold xl
    rw [F _ (xGR_mem hn') hne]
theorem xE_id {y1 y2 z2 : List Int32} {off n : Nat} (H : ∀ i, i < n → y1.getD i 0 = y2.getD (off + i) 0) {w v : Int32} (e : y2.getD w.toNatClampNeg 0 = v) (s2 : y2.set w.toNatClampNeg v = z2) : ∀ j, j < n → y1.getD j 0 = z2.getD (off + j) 0 := by
  intro j hj
  rw [H j hj, ← s2, xj_gs]
  split
  · rename_i q
    rw [← q.1]
    exact e
  · rfl
/-! Rows alike but for their numbers: 0, 1, 2 there are -1, 1, 0 here -/
def xM (a b : Option (Value ⊕ (Nat × xe_A))) (mu ad n : Nat) : Prop := ∃ (t1 t2 : Nat) (y1 y2 : List Int32), a = some (.inr (t1, .inl y1)) ∧ b = some (.inr (t2, .inl y2)) ∧ ∀ i, i < n → ((y1.getD i 0).toInt = 0 ∧ (y2.getD (mu * i + ad) 0).toInt = -1) ∨ ((y1.getD i 0).toInt = 1 ∧ (y2.getD (mu * i + ad) 0).toInt = 1) ∨ ((y1.getD i 0).toInt = 2 ∧ (y2.getD (mu * i + ad) 0).toInt = 0)
def xMr (y1 y2 : List Int32) (mu ad n : Nat) : Prop := ∀ i, i < n → ((y1.getD i 0).toInt = 0 ∧ (y2.getD (mu * i + ad) 0).toInt = -1) ∨ ((y1.getD i 0).toInt = 1 ∧ (y2.getD (mu * i + ad) 0).toInt = 1) ∨ ((y1.getD i 0).toInt = 2 ∧ (y2.getD (mu * i + ad) 0).toInt = 0)
theorem xM_of {h : xe_H} {k q k2 q2 mu ad n t t2 : Nat} {y y2 : List Int32} (e : xM (xl h (k, q)) (xl h (k2, q2)) mu ad n) (A : h[k]? = some (.inl (t, .inl y))) (A2 : h[k2]? = some (.inl (t2, .inl y2))) : xMr y y2 mu ad n := by
  obtain ⟨s1, s2, z1, z2, e1, e2, e3⟩ := e
  rw [xl_arr A] at e1
  rw [xl_arr A2] at e2
  cases e1; cases e2
  exact e3
theorem xM_mk {h : xe_H} {k q k2 q2 mu ad n t t2 : Nat} {y y2 : List Int32} (A : h[k]? = some (.inl (t, .inl y))) (A2 : h[k2]? = some (.inl (t2, .inl y2))) (H : xMr y y2 mu ad n) : xM (xl h (k, q)) (xl h (k2, q2)) mu ad n := ⟨t, t2, y, y2, xl_arr A, xl_arr A2, H⟩
theorem xM_ld {y1 y2 : List Int32} {mu ad n : Nat} (H : xMr y1 y2 mu ad n) {i w v u : Int32} (h0 : 0 ≤ i.toInt) (h1 : i.toInt < n) (hw : w.toInt = mu * i.toInt + ad) (e : y1.getD i.toNatClampNeg 0 = v) (e2 : y2.getD w.toNatClampNeg 0 = u) : (v.toInt = 0 ∧ u.toInt = -1) ∨ (v.toInt = 1 ∧ u.toInt = 1) ∨ (v.toInt = 2 ∧ u.toInt = 0) := by
  have q1 := xj_tn h0
  have hm : 0 ≤ (mu : Int) * i.toInt := Int.mul_nonneg (by omega) h0
  have q2 := xj_tn (i := w) (by omega)
  have q3 := H i.toNatClampNeg (by omega)
  have q4 : mu * i.toNatClampNeg + ad = w.toNatClampNeg := by
    have : ((mu * i.toNatClampNeg + ad : Nat) : Int) = (w.toNatClampNeg : Int) := by
      rw [q2, hw, ← q1]
      simp
    omega
  rw [q4, e, e2] at q3
  exact q3
theorem xM_set {y1 y2 z1 z2 : List Int32} {mu ad n : Nat} (H : xMr y1 y2 mu ad n) (hmu : 0 < mu) {i w v u : Int32} (h0 : 0 ≤ i.toInt) (hw : w.toInt = mu * i.toInt + ad) (l1 : n ≤ y1.length) (l2 : ∀ j, j < n → mu * j + ad < y2.length) (s1 : y1.set i.toNatClampNeg v = z1) (s2 : y2.set w.toNatClampNeg u = z2) (hv : (v.toInt = 0 ∧ u.toInt = -1) ∨ (v.toInt = 1 ∧ u.toInt = 1) ∨ (v.toInt = 2 ∧ u.toInt = 0)) : xMr z1 z2 mu ad n := by
  have q1 := xj_tn h0
  have hm : 0 ≤ (mu : Int) * i.toInt := Int.mul_nonneg (by omega) h0
  have q2 := xj_tn (i := w) (by omega)
  have q4 : mu * i.toNatClampNeg + ad = w.toNatClampNeg := by
    have : ((mu * i.toNatClampNeg + ad : Nat) : Int) = (w.toNatClampNeg : Int) := by
      rw [q2, hw, ← q1]
      simp
    omega
  intro j hj
  rw [← s1, ← s2, xj_gs, xj_gs, ← q4]
  by_cases q : i.toNatClampNeg = j
  · subst q
    rw [if_pos ⟨rfl, by omega⟩, if_pos ⟨rfl, l2 _ hj⟩]
    exact hv
  · rw [if_neg (fun z => q z.1), if_neg (fun z => q ?_)]
    · exact H j hj
    · have := z.1
      have h3 : mu * i.toNatClampNeg = mu * j := by omega
      exact Nat.eq_of_mul_eq_mul_left hmu h3
theorem xM_oth {y1 y2 z2 : List Int32} {mu ad n : Nat} (H : xMr y1 y2 mu ad n) {w u : Int32} (h0 : 0 ≤ w.toInt) (hne : ∀ j : Nat, j < n → ((mu * j + ad : Nat) : Int) ≠ w.toInt) (s2 : y2.set w.toNatClampNeg u = z2) : xMr y1 z2 mu ad n := by
  have q2 := xj_tn h0
  intro j hj
  have h3 := hne j hj
  rw [← s2, xj_gs, if_neg (fun z => h3 (by rw [← z.1]; exact q2))]
  exact H j hj
/-! Bits of a number and a row of yes and no; those from a count on are no -/
def xBr (a : Int32) (y : List Int32) (c : Int32) : Prop := ∀ k : Nat, k < 10 → ((a.toBitVec.getLsbD k = true ∧ (y.getD k 0).toInt = 1) ∨ (a.toBitVec.getLsbD k = false ∧ (y.getD k 0).toInt = 0)) ∧ (c.toInt ≤ k → a.toBitVec.getLsbD k = false)
def xB (a b cc : Option (Value ⊕ (Nat × xe_A))) : Prop := ∃ (u : Int32) (t : Nat) (y : List Int32) (c : Int32), a = some (.inl (.int u)) ∧ b = some (.inr (t, .inl y)) ∧ cc = some (.inl (.int c)) ∧ xBr u y c
theorem xB_of {h : xe_H} {k q k2 q2 k3 q3 t ci ci3 : Nat} {fs fs3 : List Value} {u c : Int32} {y : List Int32} (e : xB (xl h (k, q)) (xl h (k2, q2)) (xl h (k3, q3))) (A : h[k]? = some (.inr (ci, fs))) (A2 : h[k2]? = some (.inl (t, .inl y))) (A3 : h[k3]? = some (.inr (ci3, fs3))) (hu : fs[q]? = some (.int u)) (hc : fs3[q3]? = some (.int c)) : xBr u y c := by
  obtain ⟨v, s, z, w, e1, e2, e3, e4⟩ := e
  rw [xl_of A hu] at e1
  rw [xl_arr A2] at e2
  rw [xl_of A3 hc] at e3
  cases e1; cases e2; cases e3
  exact e4
theorem xB_mk {h : xe_H} {k q k2 q2 k3 q3 t ci ci3 : Nat} {fs fs3 : List Value} {u c : Int32} {y : List Int32} (A : h[k]? = some (.inr (ci, fs))) (A2 : h[k2]? = some (.inl (t, .inl y))) (A3 : h[k3]? = some (.inr (ci3, fs3))) (hu : fs[q]? = some (.int u)) (hc : fs3[q3]? = some (.int c)) (H : xBr u y c) : xB (xl h (k, q)) (xl h (k2, q2)) (xl h (k3, q3)) := ⟨u, t, y, c, xl_of A hu, xl_arr A2, xl_of A3 hc, H⟩
theorem xB_bit {i vb : Int32} (h0 : 0 ≤ i.toInt) (h1 : i.toInt < 10) (eb : (1 : Int32) <<< (i &&& 31) = vb) : vb.toBitVec = BitVec.twoPow 32 i.toNatClampNeg ∧ i.toNatClampNeg < 10 := by
  have hk : ∀ n : Fin 10, ((1 : Int32) <<< (Int32.ofNat n.val &&& 31)).toBitVec = BitVec.twoPow 32 n.val := by decide +kernel
  have q1 := xj_tn h0
  have hlt : i.toNatClampNeg < 10 := by omega
  have e : Int32.ofNat i.toNatClampNeg = i := xc_of (by rw [show (Int32.ofNat i.toNatClampNeg).toInt = (i.toNatClampNeg : Int) from nI_toInt (by omega)]; omega)
  have h2 := hk ⟨i.toNatClampNeg, hlt⟩
  rw [show (Int32.ofNat ((⟨i.toNatClampNeg, hlt⟩ : Fin 10)).val) = i from e] at h2
  rw [← eb]
  exact ⟨h2, hlt⟩
theorem xB_and {u vb v1 : Int32} {k : Nat} (hk : k < 10) (hb : vb.toBitVec = BitVec.twoPow 32 k) (e1 : u &&& vb = v1) : (u.toBitVec.getLsbD k = true ∧ v1.toInt ≠ 0) ∨ (u.toBitVec.getLsbD k = false ∧ v1.toInt = 0) := by
  have h1 : v1.toBitVec = if u.toBitVec.getLsbD k then BitVec.twoPow 32 k else 0#32 := by
    rw [← e1, Int32.toBitVec_and, hb, BitVec.and_twoPow]
  cases hq : u.toBitVec.getLsbD k with
  | true =>
    refine Or.inl ⟨rfl, fun hz => ?_⟩
    rw [hq] at h1
    have h2 : v1 = 0 := xc_of (by rw [hz]; rfl)
    rw [h2] at h1
    have h3 : ∀ n : Fin 10, (0 : Int32).toBitVec ≠ BitVec.twoPow 32 n.val := by decide +kernel
    exact h3 ⟨k, hk⟩ h1
  | false =>
    refine Or.inr ⟨rfl, ?_⟩
    rw [hq] at h1
    have h2 : v1 = 0 := Int32.toBitVec_inj.mp h1
    rw [h2]
    rfl
theorem xB_ld {u vb v1 v2 i c : Int32} {y : List Int32} (H : xBr u y c) (h0 : 0 ≤ i.toInt) (h1 : i.toInt < 10) (eb : (1 : Int32) <<< (i &&& 31) = vb) (e1 : u &&& vb = v1) (e2 : y.getD i.toNatClampNeg 0 = v2) : (v1.toInt ≠ 0 ∧ v2.toInt = 1) ∨ (v1.toInt = 0 ∧ v2.toInt = 0) := by
  obtain ⟨hb, hk⟩ := xB_bit h0 h1 eb
  have h3 := (H _ hk).1
  rw [e2] at h3
  rcases xB_and hk hb e1 with ⟨a, b⟩ | ⟨a, b⟩
  · rcases h3 with ⟨_, q⟩ | ⟨q, _⟩
    · exact Or.inl ⟨b, q⟩
    · rw [a] at q; cases q
  · rcases h3 with ⟨q, _⟩ | ⟨_, q⟩
    · rw [a] at q; cases q
    · exact Or.inr ⟨b, q⟩
theorem xB_flip {u u' vb v1 i c on : Int32} {y z : List Int32} (H : xBr u y c) (h0 : 0 ≤ i.toInt) (h1 : i.toInt < 10) (hic : i.toInt < c.toInt) (hl : y.length = 10) (eb : (1 : Int32) <<< (i &&& 31) = vb) (e1 : u &&& vb = v1) (ex : u ^^^ vb = u') (s : y.set i.toNatClampNeg on = z) (hv : (v1.toInt = 0 ∧ on.toInt = 1) ∨ (v1.toInt ≠ 0 ∧ on.toInt = 0)) : xBr u' z c := by
  obtain ⟨hb, hk⟩ := xB_bit h0 h1 eb
  have q1 := xj_tn h0
  intro k hk'
  have hx : u'.toBitVec.getLsbD k = (u.toBitVec.getLsbD k ^^ decide (k = i.toNatClampNeg)) := by
    rw [← ex, Int32.toBitVec_xor, hb, BitVec.getLsbD_xor, BitVec.getLsbD_twoPow]
    have e32 : decide (i.toNatClampNeg < 32) = true := decide_eq_true (by omega)
    have ec : decide (i.toNatClampNeg = k) = decide (k = i.toNatClampNeg) := by
      by_cases hq : i.toNatClampNeg = k
      · rw [decide_eq_true hq, decide_eq_true hq.symm]
      · rw [decide_eq_false hq, decide_eq_false (fun h => hq h.symm)]
    rw [e32, Bool.true_and, ec]
  rw [← s, xj_gs]
  by_cases hq : i.toNatClampNeg = k
  · subst hq
    rw [if_pos ⟨rfl, by omega⟩, hx]
    refine ⟨?_, fun hc => by omega⟩
    rcases xB_and hk hb e1 with ⟨a, b⟩ | ⟨a, b⟩
    · rw [a]
      rcases hv with ⟨q, _⟩ | ⟨_, q⟩
      · exact absurd q b
      · exact Or.inr ⟨by simp, q⟩
    · rw [a]
      rcases hv with ⟨_, q⟩ | ⟨q, _⟩
      · exact Or.inl ⟨by simp, q⟩
      · exact absurd b q
  · have hq2 : ¬ k = i.toNatClampNeg := fun h => hq h.symm
    rw [if_neg (fun z => hq z.1), hx, decide_eq_false hq2, Bool.xor_false]
    exact H k hk'
theorem xB_same {u vb v1 i c on : Int32} {y z : List Int32} (H : xBr u y c) (h0 : 0 ≤ i.toInt) (h1 : i.toInt < 10) (hl : y.length = 10) (eb : (1 : Int32) <<< (i &&& 31) = vb) (e1 : u &&& vb = v1) (s : y.set i.toNatClampNeg on = z) (hv : (v1.toInt = 0 ∧ on.toInt = 0) ∨ (v1.toInt ≠ 0 ∧ on.toInt = 1)) : xBr u z c := by
  obtain ⟨hb, hk⟩ := xB_bit h0 h1 eb
  intro k hk'
  rw [← s, xj_gs]
  by_cases hq : i.toNatClampNeg = k
  · subst hq
    rw [if_pos ⟨rfl, by omega⟩]
    refine ⟨?_, (H _ hk').2⟩
    rcases xB_and hk hb e1 with ⟨a, b⟩ | ⟨a, b⟩
    · rcases hv with ⟨q, _⟩ | ⟨_, q⟩
      · exact absurd q b
      · exact Or.inl ⟨a, q⟩
    · rcases hv with ⟨_, q⟩ | ⟨q, _⟩
      · exact Or.inr ⟨a, q⟩
      · exact absurd b q
  · rw [if_neg (fun z => hq z.1)]
    exact H k hk'
theorem xB_new {u c c' i on : Int32} {y z : List Int32} (H : xBr u y c) (h0 : 0 ≤ i.toInt) (h1 : i.toInt < 10) (hi : i.toInt = c.toInt) (hc : c.toInt ≤ c'.toInt) (hl : y.length = 10) (s : y.set i.toNatClampNeg on = z) (hv : on.toInt = 0) : xBr u z c' := by
  have q1 := xj_tn h0
  intro k hk'
  rw [← s, xj_gs]
  refine ⟨?_, fun h => (H k hk').2 (by omega)⟩
  by_cases hq : i.toNatClampNeg = k
  · subst hq
    rw [if_pos ⟨rfl, by omega⟩]
    exact Or.inr ⟨(H _ hk').2 (by omega), hv⟩
  · rw [if_neg (fun z => hq z.1)]
    exact (H k hk').1
