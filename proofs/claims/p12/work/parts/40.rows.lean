/-! The rows of the heap's instructions, over the pure machine's cells -/
theorem xe_rep {α : Type} (n : Nat) (d : α) (q : Nat) : (List.replicate n d).getD q d = d := by
  rw [List.getD_eq_getElem?_getD, List.getElem?_replicate]
  split <;> rfl
theorem xe_ci (ad : Nat → Nat) (cI : ClassId) (x : List Int32) : vp_cell cI (xe_a ad (.inl x)) = arrV cI x.length (fun j => .int (x.getD j 0)) := rfl
theorem xe_cl (ad : Nat → Nat) (cI : ClassId) (x : List Int64) : vp_cell cI (xe_a ad (.inr (.inl x))) = arrV cI x.length (fun j => .long (x.getD j 0)) := rfl
theorem xe_cq (ad : Nat → Nat) (cI : ClassId) (x : List (Option Nat)) : vp_cell cI (xe_a ad (.inr (.inr x))) = arrV cI x.length (fun j => va_rf ((x.getD j none).map ad)) := rfl
section XER
variable {p : Program} {l : Launch} {e : Env} {R : Room} {s : State} {m : MethodId} {args : Array Value} {below : List Frame} {meth : Method} {c : Code} {H : Heap} {locs : List Loc} {cells slots : Nat} {Q : State → Prop}
variable {ov : List (List Int32)} {D : va_G} {cA : Nat → ClassId} {old : Nat → Nat} {base mi pc : Nat} {ls : Array Slot} {rest : List Value} {h : xe_H}
/-- what holds in method mi from its beginning on -/
def xe_F (ov : List (List Int32)) (D : va_G) (cA : Nat → ClassId) (old : Nat → Nat) (base : Nat) (p : Program) (s : State) (m : MethodId) (args : Array Value) (meth : Method) (c : Code) (mi : Nat) : Prop :=
  p.tables.exec = Jvm.exec ∧ c.code = xe_mB mi ∧ c.maxLocals = xe_mL mi ∧ s.vm.findClass (xe_mY mi).cls = some m.cls ∧ (∀ w ∈ xe_G, w.before args s = true) ∧ meth.sig.returnType = xe_mR mi ∧ meth.locks = false ∧ ((xe_mY mi).name = "<init>" → meth.name = "<init>") ∧ base ≤ s.heap.size ∧ xe_Kn ov D cA old base s
theorem xe_Rl.obj (hR : xe_Rl D cA old base s.heap h H locs) {a ci : Nat} {fs : List Value} {q : vw_C} (he : h[a]? = some (.inr (ci, fs))) (hc : xe_cls[ci]? = some q) : a < xe_o ∧ va_at D xe_cls (base + a, .inr (ci, fs.map (xe_v (xe_ad base old)))) H := by
  refine ⟨Nat.lt_of_lt_of_le (List.getElem?_eq_some_iff.mp he).1 hR.2.1, ?_⟩
  rcases hR.2.2.2 a _ he with h1 | h1
  · have h2 := (List.getElem?_eq_some_iff.mp hc).1
    have h3 := of_decide_eq_true h1
    omega
  · exact h1
theorem xe_Rl.arr (hR : xe_Rl D cA old base s.heap h H locs) {a t : Nat} {x : xe_A} (he : h[a]? = some (.inl (t, x))) : a < xe_o ∧ va_at D xe_cls (base + a, .inl (cA t, xe_a (xe_ad base old) x)) H := by
  refine ⟨Nat.lt_of_lt_of_le (List.getElem?_eq_some_iff.mp he).1 hR.2.1, ?_⟩
  rcases hR.2.2.2 a _ he with h1 | h1
  · cases h1
  · exact h1
theorem xe_one {D : va_G} {cl : List vw_C} {q : Nat × va_E} {H : Heap} (h : va_at D cl q H) : va_P D cl [q] H := by
  intro k x hx
  have hz : k < 1 := (List.getElem?_eq_some_iff.mp hx).1
  have : k = 0 := by omega
  subst this
  cases hx
  exact h
theorem xe_wget (F : xe_F ov D cA old base p s m args meth c mi) (hR : xe_Rl D cA old base s.heap h H locs) {a ci k idx N : Nat} {fs : List Value} {v : Value} {C : String} {T : u_T} (he : h[a]? = some (.inr (ci, fs))) (hc : xe_cls[ci]? = some (C, T, N)) (hk : k < N) (hin : ∀ w ∈ u_ws C T N, w ∈ xe_G)
    (hlink : Jvm.Cond.fieldLink (xe_mY mi).cls idx (T k).1 (T k).2.1 (T k).2.2.1 ∈ xe_G ∨ ∃ host, Jvm.Cond.fieldLinkNest (xe_mY mi).cls idx (T k).1 (T k).2.1 (T k).2.2.1 host ∈ xe_nw) (hv : fs[k]? = some v) (hdg : decode (xe_mB mi) pc = .ok (.getfield idx, 3))
    (kk : W p l e R s m args below meth c H locs cells slots Q (F0 m (pc + 3) ls (xe_v (xe_ad base old) v :: rest))) : W p l e R s m args below meth c H locs cells slots Q (F0 m pc ls (.ref (xe_ad base old a) :: rest)) := by
  obtain ⟨hx, hb, hml, hown, hts, -, -, -, -, hK, hnw, -⟩ := F
  obtain ⟨ha, hat⟩ := hR.obj he hc
  rw [xe_ad_lt ha]
  rcases hlink with h1 | ⟨host, h1⟩
  · exact va_get hx hb hts hin hown hK (xe_one hat) 0 rfl hc k hk (hts _ h1) (fun _ h => h) (by rw [List.getElem?_map, hv]; rfl) hdg kk
  · exact va_getN hx hb hts hin hown hK (xe_one hat) 0 rfl hc k hk (va_Nw.use rfl (hnw _ h1)) (fun _ h => h) (by rw [List.getElem?_map, hv]; rfl) hdg kk
theorem xe_wput (F : xe_F ov D cA old base p s m args meth c mi) (hR : xe_Rl D cA old base s.heap h H locs) {a ci k idx N : Nat} {fs : List Value} {v : Value} {C : String} {T : u_T} {ty : FieldType} (he : h[a]? = some (.inr (ci, fs))) (hc : xe_cls[ci]? = some (C, T, N)) (hk : k < N) (hin : ∀ w ∈ u_ws C T N, w ∈ xe_G)
    (ty0 : Nat → FieldType) (hty : ∀ k, k < N → parseFieldDescriptor (T k).2.2.1 = some (ty0 k)) (hnm : ∀ a, a < N → ∀ b, b < N → a ≠ b → (T a).2.1 ≠ (T b).2.1)
    (hlink : ((T k).2.2.2 = false ∧ (Jvm.Cond.fieldLink (xe_mY mi).cls idx (T k).1 (T k).2.1 (T k).2.2.1 ∈ xe_G ∨ ∃ host, Jvm.Cond.fieldLinkNest (xe_mY mi).cls idx (T k).1 (T k).2.1 (T k).2.2.1 host ∈ xe_nw)) ∨ ((T k).2.2.2 = true ∧ (xe_mY mi).name = "<init>" ∧ (T k).1 = (xe_mY mi).cls ∧ Jvm.Cond.fieldLink (xe_mY mi).cls idx (T k).1 (T k).2.1 (T k).2.2.1 ∈ xe_G))
    (hd : parseFieldDescriptor (T k).2.2.1 = some ty) (hn : narrow ty v = v) (hfit : fits ty v = true) (hl : k < fs.length) (hdg : decode (xe_mB mi) pc = .ok (.putfield idx, 3))
    (kk : ∀ (H1 : Heap) (locs1 : List Loc), xe_Rl D cA old base s.heap (h.set a (.inr (ci, fs.set k v))) H1 locs1 → W p l e R s m args below meth c H1 locs1 cells slots Q (F0 m (pc + 3) ls rest)) : W p l e R s m args below meth c H locs cells slots Q (F0 m pc ls (xe_v (xe_ad base old) v :: .ref (xe_ad base old a) :: rest)) := by
  obtain ⟨hx, hb, hml, hown, hts, -, -, hmn, -, hK, hnw, -⟩ := F
  obtain ⟨ha, hat⟩ := hR.obj he hc
  rw [xe_ad_lt ha]
  have hn' := xe_narrow (ad := xe_ad base old) hn
  have hfit' : fits ty (xe_v (xe_ad base old) v) = true := by rw [xe_fits]; exact hfit
  have hap := va_apart (own := (xe_mY mi).cls) hts hin ty0 hty hnm hK hc
  obtain ⟨r, h1, cell, q1, q2, q3, q4⟩ := hat
  have hr : r = (C, T, N) := Option.some.inj (h1.symm.trans hc)
  subst hr
  obtain ⟨hS, hfc, kC, hkC, hkind⟩ := hK.1 ci _ hc
  obtain ⟨cf, kf, fi, f, hi, hsl⟩ := hS k hk
  have hst := (u_facts hfc hkC (u_lays hts hin hk) hi).1
  have hlay := hts _ (hin _ (u_in_lay hk))
  have fin : ∀ (H' : Heap), H'[base + a]? = some (cell.setSlot (D.2 ci k) (xe_v (xe_ad base old) v)) → H'.size = H.size → (∀ q, q ≠ base + a → H'[q]? = H[q]?) → W p l e R s m args below meth c H' (locs ++ [⟨base + a, D.2 ci k⟩]) cells slots Q (F0 m (pc + 3) ls rest) := by
    intro H' e1 e2 e3
    refine kk H' _ (hR.put ?_ e2 e3)
    show va_at D xe_cls (base + a, .inr (ci, (fs.set k v).map (xe_v (xe_ad base old)))) H'
    rw [List.map_set]
    exact ⟨_, hc, t_OB.to (V := updV (vp_V (fs.map (xe_v (xe_ad base old)))) k (xe_v (xe_ad base old) v)) ⟨_, e1, q2, q3, t_set q4 hap hk _⟩ (fun j _ => vp_updV_set (by rw [List.length_map]; exact hl) _ j)⟩
  rcases hlink with ⟨hfin, h1 | ⟨host, h1⟩⟩ | ⟨hfin, hin2, hdecl, h1⟩
  · unfold u_lay at hlay
    rw [if_neg (by rw [hfin]; decide)] at hlay
    have h6 := u_store hfc hkC hkind hlay hi hd hn' hfit'
    refine W.putK hx hb (f := f) ⟨hown, hts _ h1, ⟨_, _, _, hi⟩, hst⟩ (by rw [q2]; exact h6) q1 q3 (by rw [hsl]; exact k2_hasslot (q4 k hk)) rfl rfl hdg fun H' e1 e2 e3 => ?_
    rw [hsl] at e1 ⊢
    exact fin H' e1 e2 e3
  · unfold u_lay at hlay
    rw [if_neg (by rw [hfin]; decide)] at hlay
    have h6 := u_store hfc hkC hkind hlay hi hd hn' hfit'
    refine va_WputK hx hb (f := f) hown (va_Nw.use rfl (hnw _ h1)) hi hst (by rw [q2]; exact h6) q1 q3 (by rw [hsl]; exact k2_hasslot (q4 k hk)) rfl rfl hdg fun H' e1 e2 e3 => ?_
    rw [hsl] at e1 ⊢
    exact fin H' e1 e2 e3
  · unfold u_lay at hlay
    rw [if_pos hfin] at hlay
    have hcf : m.cls = cf := by
      obtain ⟨_, _, c', _, _, _, -, -, hf', -, -, -, hown2, -⟩ := Cond.laysFinal_spec hlay
      have e1 : c' = cf := by have := hi.symm.trans hf'; simp at this; exact this.1.symm
      rw [hdecl] at hown2
      rw [← e1]; exact Option.some.inj (hown.symm.trans hown2)
    have h6 := u_fits hfc hkC hkind (Or.inr hlay) hi hd hn' hfit'
    refine W.putFinK hx hb hown (hts _ h1) hi hst hcf (hmn hin2) (by rw [q2]; exact h6) q1 q3 (by rw [hsl]; exact k2_hasslot (q4 k hk)) rfl rfl hdg fun H' e1 e2 e3 => ?_
    rw [hsl] at e1 ⊢
    exact fin H' e1 e2 e3
theorem xe_getD_set {α : Type} {l : List α} {i : Nat} (hi : i < l.length) (x d : α) (j : Nat) : (l.set i x).getD j d = if j = i then x else l.getD j d := by
  by_cases hj : j = i
  · subst hj
    simp [hi]
  · simp [hj, List.getElem?_set, Ne.symm hj]
theorem xe_wild (F : xe_F ov D cA old base p s m args meth c mi) (hR : xe_Rl D cA old base s.heap h H locs) {a t : Nat} {x : List Int32} (he : h[a]? = some (.inl (t, .inl x))) (ht : xe_ty[t]? = some .int) {i : Int32} (hin : vp_in i x.length) (hdg : decode (xe_mB mi) pc = .ok (.iaload, 1))
    (kk : W p l e R s m args below meth c H locs cells slots Q (F0 m (pc + 1) ls (.int (x.getD i.toNatClampNeg 0) :: rest))) : W p l e R s m args below meth c H locs cells slots Q (F0 m pc ls (.int i :: .ref (xe_ad base old a) :: rest)) := by
  obtain ⟨hx, hb, -, -, -, -, -, -, -, hK, -⟩ := F
  obtain ⟨ha, hat⟩ := hR.arr he
  rw [xe_ad_lt ha]
  exact va_iald hx hb hK (xe_one hat) 0 t rfl (xe_tys_at ht) hin hdg kk
theorem xe_wold (F : xe_F ov D cA old base p s m args meth c mi) (hR : xe_Rl D cA old base s.heap h H locs) {a : Nat} {x : List Int32} (ha : ¬ a < xe_o) (he : ov[a - xe_o]? = some x) {i : Int32} (hin : vp_in i x.length) (hdg : decode (xe_mB mi) pc = .ok (.iaload, 1))
    (kk : W p l e R s m args below meth c H locs cells slots Q (F0 m (pc + 1) ls (.int (x.getD i.toNatClampNeg 0) :: rest))) : W p l e R s m args below meth c H locs cells slots Q (F0 m pc ls (.int i :: .ref (xe_ad base old a) :: rest)) := by
  obtain ⟨hx, hb, -, -, -, -, -, -, -, -, -, -, hO, -⟩ := F
  rw [xe_ad_ge ha]
  exact va_ti hx hb (hO _ _ he) hR.2.2.1 hin rfl hdg kk
theorem xe_wbld (F : xe_F ov D cA old base p s m args meth c mi) (hR : xe_Rl D cA old base s.heap h H locs) {a t : Nat} {x : List Int32} (he : h[a]? = some (.inl (t, .inl x))) (ht : xe_ty[t]? = some .boolean) {i : Int32} (hin : vp_in i x.length) (hdg : decode (xe_mB mi) pc = .ok (.baload, 1))
    (kk : W p l e R s m args below meth c H locs cells slots Q (F0 m (pc + 1) ls (.int (x.getD i.toNatClampNeg 0) :: rest))) : W p l e R s m args below meth c H locs cells slots Q (F0 m pc ls (.int i :: .ref (xe_ad base old a) :: rest)) := by
  obtain ⟨hx, hb, -, -, -, -, -, -, -, hK, -⟩ := F
  obtain ⟨ha, hat⟩ := hR.arr he
  rw [xe_ad_lt ha]
  exact va_zald hx hb hK (xe_one hat) 0 t rfl (xe_tys_at ht) hin hdg kk
theorem xe_wlld (F : xe_F ov D cA old base p s m args meth c mi) (hR : xe_Rl D cA old base s.heap h H locs) {a t : Nat} {x : List Int64} (he : h[a]? = some (.inl (t, .inr (.inl x)))) (ht : xe_ty[t]? = some .long) {i : Int32} (hin : vp_in i x.length) (hdg : decode (xe_mB mi) pc = .ok (.laload, 1))
    (kk : W p l e R s m args below meth c H locs cells slots Q (F0 m (pc + 1) ls (.long (x.getD i.toNatClampNeg 0) :: rest))) : W p l e R s m args below meth c H locs cells slots Q (F0 m pc ls (.int i :: .ref (xe_ad base old a) :: rest)) := by
  obtain ⟨hx, hb, -, -, -, -, -, -, -, hK, -⟩ := F
  obtain ⟨ha, hat⟩ := hR.arr he
  rw [xe_ad_lt ha]
  exact va_lald hx hb hK (xe_one hat) 0 t rfl (xe_tys_at ht) hin hdg kk
theorem xe_rf (ad : Nat → Nat) (r : Option Nat) : va_rf (r.map ad) = xe_v ad (va_rf r) := by cases r <;> rfl
theorem xe_wald (F : xe_F ov D cA old base p s m args meth c mi) (hR : xe_Rl D cA old base s.heap h H locs) {a t : Nat} {x : List (Option Nat)} {C : String} (he : h[a]? = some (.inl (t, .inr (.inr x)))) (ht : xe_ty[t]? = some (.object C)) {i : Int32} (hin : vp_in i x.length) (hdg : decode (xe_mB mi) pc = .ok (.aaload, 1))
    (kk : W p l e R s m args below meth c H locs cells slots Q (F0 m (pc + 1) ls (xe_v (xe_ad base old) (va_rf (x.getD i.toNatClampNeg none)) :: rest))) : W p l e R s m args below meth c H locs cells slots Q (F0 m pc ls (.int i :: .ref (xe_ad base old a) :: rest)) := by
  obtain ⟨hx, hb, -, -, -, -, -, -, -, hK, -⟩ := F
  obtain ⟨ha, hat⟩ := hR.arr he
  rw [xe_ad_lt ha]
  exact va_aldq hx hb hK (xe_one hat) 0 t rfl (xe_tys_at ht) hin hdg (by rw [xe_rf]; exact kk)
theorem xe_walen (F : xe_F ov D cA old base p s m args meth c mi) (hR : xe_Rl D cA old base s.heap h H locs) {a n : Nat} (he : xe_alen ov h a = some n) (hdg : decode (xe_mB mi) pc = .ok (.arraylength, 1))
    (kk : W p l e R s m args below meth c H locs cells slots Q (F0 m (pc + 1) ls (.int (Int32.ofNat n) :: rest))) : W p l e R s m args below meth c H locs cells slots Q (F0 m pc ls (.ref (xe_ad base old a) :: rest)) := by
  obtain ⟨hx, hb, -, -, -, -, -, -, -, hK, -, -, hO, -⟩ := F
  unfold xe_alen at he
  by_cases ha : a < xe_o
  · rw [if_pos ha] at he
    have key : ∀ (t : Nat) (x : xe_A), h[a]? = some (.inl (t, x)) → t < xe_ty.length → (xe_a (xe_ad base old) x).1 = n → W p l e R s m args below meth c H locs cells slots Q (F0 m pc ls (.ref (xe_ad base old a) :: rest)) := by
      intro t x hx1 ht hn
      obtain ⟨-, hat⟩ := hR.arr hx1
      rw [xe_ad_lt ha]
      exact va_alen hx hb hK (xe_one hat) 0 t rfl (xe_tys_at (List.getElem?_eq_getElem ht)) (by rw [hn]) hdg kk
    split at he
    · rename_i t x hq
      split at he
      · exact key t _ hq (by assumption) (Option.some.inj he)
      · cases he
    · rename_i t x hq
      split at he
      · exact key t _ hq (by assumption) (Option.some.inj he)
      · cases he
    · rename_i t x hq
      split at he
      · exact key t _ hq (by assumption) (Option.some.inj he)
      · cases he
    · cases he
  · rw [if_neg ha] at he
    rw [xe_ad_ge ha]
    cases hq : ov[a - xe_o]? with
    | none => rw [hq] at he; cases he
    | some x =>
      rw [hq] at he
      have hn : x.length = n := Option.some.inj he
      subst hn
      exact va_tlen hx hb (hO _ _ hq) hR.2.2.1 rfl hdg kk
theorem xe_wist (F : xe_F ov D cA old base p s m args meth c mi) (hR : xe_Rl D cA old base s.heap h H locs) {a t : Nat} {x : List Int32} (he : h[a]? = some (.inl (t, .inl x))) (ht : xe_ty[t]? = some .int) {i v : Int32} (hin : vp_in i x.length) (hdg : decode (xe_mB mi) pc = .ok (.iastore, 1))
    (kk : ∀ (H1 : Heap) (locs1 : List Loc), xe_Rl D cA old base s.heap (h.set a (.inl (t, .inl (x.set i.toNatClampNeg v)))) H1 locs1 → W p l e R s m args below meth c H1 locs1 cells slots Q (F0 m (pc + 1) ls rest)) : W p l e R s m args below meth c H locs cells slots Q (F0 m pc ls (.int v :: .int i :: .ref (xe_ad base old a) :: rest)) := by
  obtain ⟨hx, hb, -, -, -, -, -, -, -, hK, -⟩ := F
  obtain ⟨ha, hat⟩ := hR.arr he
  rw [xe_ad_lt ha]
  have hlt : i.toNatClampNeg < x.length := Nat.not_le.mp fun q => hin (Or.inr q)
  refine W.iast hx hb hat ((hK.2 t _ (xe_tys_at ht)).1 x.length (fun j => .int (x.getD j 0))) (fun q => by cases q) (by show ¬ (i < 0 ∨ (arrV _ _ _).slots.size ≤ _); rw [arrV_size]; exact hin) rfl rfl hdg fun H1 e1 z oq => ?_
  refine kk H1 _ (hR.put ?_ z oq)
  show H1[base + a]? = some (vp_cell _ _)
  rw [e1]
  dsimp only
  rw [xe_ci, xe_ci, arrV_store, List.length_set]
  congr 2
  funext q
  simp only [updV, xe_getD_set hlt]
  by_cases hq : q = i.toNatClampNeg <;> simp [hq]
theorem xe_wbst (F : xe_F ov D cA old base p s m args meth c mi) (hR : xe_Rl D cA old base s.heap h H locs) {a t : Nat} {x : List Int32} (he : h[a]? = some (.inl (t, .inl x))) (ht : xe_ty[t]? = some .boolean) {i v : Int32} (hin : vp_in i x.length) (hdg : decode (xe_mB mi) pc = .ok (.bastore, 1))
    (kk : ∀ (H1 : Heap) (locs1 : List Loc), xe_Rl D cA old base s.heap (h.set a (.inl (t, .inl (x.set i.toNatClampNeg (vp_nar .boolean v))))) H1 locs1 → W p l e R s m args below meth c H1 locs1 cells slots Q (F0 m (pc + 1) ls rest)) : W p l e R s m args below meth c H locs cells slots Q (F0 m pc ls (.int v :: .int i :: .ref (xe_ad base old a) :: rest)) := by
  obtain ⟨hx, hb, -, -, -, -, -, -, -, hK, -⟩ := F
  obtain ⟨ha, hat⟩ := hR.arr he
  rw [xe_ad_lt ha]
  have hlt : i.toNatClampNeg < x.length := Nat.not_le.mp fun q => hin (Or.inr q)
  refine W.zast hx hb hat ((hK.2 t _ (xe_tys_at ht)).1 x.length (fun j => .int (x.getD j 0))) (fun q => by cases q) (by show ¬ (i < 0 ∨ (arrV _ _ _).slots.size ≤ _); rw [arrV_size]; exact hin) rfl rfl hdg fun H1 e1 z oq => ?_
  refine kk H1 _ (hR.put ?_ z oq)
  show H1[base + a]? = some (vp_cell _ _)
  rw [e1]
  dsimp only
  rw [xe_ci, xe_ci, arrV_store, List.length_set]
  congr 2
  funext q
  simp only [updV, xe_getD_set hlt]
  by_cases hq : q = i.toNatClampNeg <;> simp [hq, vp_nar, narrow]
theorem xe_wlst (F : xe_F ov D cA old base p s m args meth c mi) (hR : xe_Rl D cA old base s.heap h H locs) {a t : Nat} {x : List Int64} (he : h[a]? = some (.inl (t, .inr (.inl x)))) (ht : xe_ty[t]? = some .long) {i : Int32} {v : Int64} (hin : vp_in i x.length) (hdg : decode (xe_mB mi) pc = .ok (.lastore, 1))
    (kk : ∀ (H1 : Heap) (locs1 : List Loc), xe_Rl D cA old base s.heap (h.set a (.inl (t, .inr (.inl (x.set i.toNatClampNeg v))))) H1 locs1 → W p l e R s m args below meth c H1 locs1 cells slots Q (F0 m (pc + 1) ls rest)) : W p l e R s m args below meth c H locs cells slots Q (F0 m pc ls (.long v :: .int i :: .ref (xe_ad base old a) :: rest)) := by
  obtain ⟨hx, hb, -, -, -, -, -, -, -, hK, -⟩ := F
  obtain ⟨ha, hat⟩ := hR.arr he
  rw [xe_ad_lt ha]
  have hlt : i.toNatClampNeg < x.length := Nat.not_le.mp fun q => hin (Or.inr q)
  refine W.last hx hb hat ((hK.2 t _ (xe_tys_at ht)).1 x.length (fun j => .long (x.getD j 0))) (fun q => by cases q) (by show ¬ (i < 0 ∨ (arrV _ _ _).slots.size ≤ _); rw [arrV_size]; exact hin) rfl rfl hdg fun H1 e1 z oq => ?_
  refine kk H1 _ (hR.put ?_ z oq)
  show H1[base + a]? = some (vp_cell _ _)
  rw [e1]
  dsimp only
  rw [xe_cl, xe_cl, arrV_store, List.length_set]
  congr 2
  funext q
  simp only [updV, xe_getD_set hlt]
  by_cases hq : q = i.toNatClampNeg <;> simp [hq]
theorem xe_wast (F : xe_F ov D cA old base p s m args meth c mi) (hR : xe_Rl D cA old base s.heap h H locs) {a t b ci : Nat} {x : List (Option Nat)} {fs : List Value} {r : vw_C} (he : h[a]? = some (.inl (t, .inr (.inr x)))) (ht : xe_ty[t]? = some (.object r.1)) (hv : h[b]? = some (.inr (ci, fs))) (hc : xe_cls[ci]? = some r) {i : Int32} (hin : vp_in i x.length) (hdg : decode (xe_mB mi) pc = .ok (.aastore, 1))
    (kk : ∀ (H1 : Heap) (locs1 : List Loc), xe_Rl D cA old base s.heap (h.set a (.inl (t, .inr (.inr (x.set i.toNatClampNeg (some b)))))) H1 locs1 → W p l e R s m args below meth c H1 locs1 cells slots Q (F0 m (pc + 1) ls rest)) : W p l e R s m args below meth c H locs cells slots Q (F0 m pc ls (.ref (xe_ad base old b) :: .int i :: .ref (xe_ad base old a) :: rest)) := by
  obtain ⟨hx, hb, -, -, -, -, -, -, -, hK, -⟩ := F
  obtain ⟨ha, hat⟩ := hR.arr he
  obtain ⟨hbo, r', hr', cellV, g1, g2, g3, -⟩ := hR.obj hv hc
  rw [xe_ad_lt ha]
  have hlt : i.toNatClampNeg < x.length := Nat.not_le.mp fun q => hin (Or.inr q)
  have h0 : ¬ i < 0 := fun q => hin (Or.inl q)
  have hcls := (hK.1 ci r hc).2
  obtain ⟨kA, comp, k1, k2, k3, -⟩ := (hK.2 t _ (xe_tys_at ht)).2
  have hcomp : comp = D.1 ci := Option.some.inj (k3.symm.trans hcls.1)
  subst hcomp
  obtain ⟨kC, hkC, -⟩ := hcls.2
  refine W.aast hx hb hat (fun q h => by cases h) (fun h => by cases h) k1 k2 rfl hkC ⟨h0, by show _ < (arrV _ _ _).slots.size; rw [arrV_size]; exact hlt⟩ (by rw [xe_ad_lt hbo]; exact g1) (fun q h => by rw [g3] at h; cases h) (by rw [g2]; exact hkC) (by rw [g2]; exact va_assign hcls) rfl rfl hdg fun H1 e1 z oq => ?_
  refine kk H1 _ (hR.put ?_ z oq)
  show H1[base + a]? = some (vp_cell _ _)
  rw [e1]
  dsimp only
  rw [xe_cq, xe_cq, arrV_store, List.length_set]
  congr 2
  funext q
  simp only [updV, xe_getD_set hlt]
  by_cases hq : q = i.toNatClampNeg <;> simp [hq, va_rf]
theorem xe_wgs (F : xe_F ov D cA old base p s m args meth c mi) (hR : xe_Rl D cA old base s.heap h H locs) {C n d : String} {j idx : Nat} (hz : (C, n, d, j) ∈ xe_zs) (hlink : Jvm.Cond.fieldLink (xe_mY mi).cls idx C n d ∈ xe_G ∨ ∃ host, Jvm.Cond.fieldLinkNest (xe_mY mi).cls idx C n d host ∈ xe_nw) (hdg : decode (xe_mB mi) pc = .ok (.getstatic idx, 3))
    (kk : W p l e R s m args below meth c H locs cells slots Q (F0 m (pc + 3) ls (.ref (old j) :: rest))) : W p l e R s m args below meth c H locs cells slots Q (F0 m pc ls rest) := by
  obtain ⟨hx, hb, -, hown, hts, -, -, -, -, -, hnw, -, -, hZ⟩ := F
  rcases hlink with h1 | ⟨host, h1⟩
  · exact va_gets hx hb (hZ _ hz) hR.2.2.1 hown (hts _ h1) (fun _ h => h) hdg kk
  · exact va_getsN hx hb (hZ _ hz) hR.2.2.1 hown (va_Nw.use rfl (hnw _ h1)) (fun _ h => h) hdg kk
theorem xe_wnew (F : xe_F ov D cA old base p s m args meth c mi) (hR : xe_Rl D cA old base s.heap h H locs) {ci idx N : Nat} {C : String} {T : u_T} (ho : h.length < xe_o) (hc : xe_cls[ci]? = some (C, T, N)) (hin : ∀ w ∈ u_ws C T N, w ∈ xe_G) (ty0 : Nat → FieldType) (hty : ∀ k, k < N → parseFieldDescriptor (T k).2.2.1 = some (ty0 k))
    (hcl : Jvm.Cond.classLink (xe_mY mi).cls idx C ∈ xe_G) (hinst : Jvm.Cond.instantiable C N ∈ xe_G) (hini : Jvm.Cond.initialized C ∈ xe_G) (hfs : ∀ j, j < N → defaultValue (ty0 j) = vp_V ((xe_dv ci).map (xe_v (xe_ad base old))) j) (hcells : cells + 1 ≤ R.cells) (hslots : slots + N ≤ R.slots) (hdg : decode (xe_mB mi) pc = .ok (.new idx, 3))
    (kk : ∀ H1 : Heap, xe_Rl D cA old base s.heap (h ++ [.inr (ci, xe_dv ci)]) H1 locs → W p l e R s m args below meth c H1 locs (cells + 1) (slots + N) Q (F0 m (pc + 3) ls (.ref (xe_ad base old h.length) :: rest))) : W p l e R s m args below meth c H locs cells slots Q (F0 m pc ls rest) := by
  obtain ⟨hx, hb, -, hown, hts, -, -, -, -, hK, -⟩ := F
  have hKn := hK.1 ci _ hc
  refine W.newcK hx hb hown (hts _ hcl) (hts _ hinst) (hts _ hini) rfl hdg hcells hslots hKn.2.1 rfl fun H1 kC hkC e1 z1 o1 => ?_
  have e0 := hR.1
  rw [xe_ad_lt ho] at kk
  rw [e0]
  refine kk H1 (hR.push ho ?_ z1 o1)
  rw [e0] at e1
  exact ⟨_, hc, (u_born ty0 hts hin hKn hkC e1 hty).to hfs⟩
theorem xe_wnewa (F : xe_F ov D cA old base p s m args meth c mi) (hR : xe_Rl D cA old base s.heap h H locs) {t : Nat} {aty : ArrayType} {ty : FieldType} {x : xe_A} {n : Int32} (ho : h.length < xe_o) (hty : newarray.typeOf aty = ty) (htt : xe_ty[t]? = some ty) (hpr : ∀ (U : State) (cA : ClassId), va_RA U cA ty → U.vm.findClass ("[" ++ ty.toString) = some cA) (hac : Jvm.Cond.arrayClass ty ∈ xe_G) (hn : ¬ n < 0) (hn2 : n.toNatClampNeg ≤ 60000)
    (hx0 : ∀ cI : ClassId, vp_cell cI (xe_a (xe_ad base old) x) = arrV cI n.toNatClampNeg (fun _ => defaultValue ty)) (hby : componentBytes ty ≤ 8) (hcells : cells + 1 ≤ R.cells) (hslots : slots + n.toNatClampNeg ≤ R.slots) (hdg : decode (xe_mB mi) pc = .ok (.newarray aty, 2))
    (kk : ∀ H1 : Heap, xe_Rl D cA old base s.heap (h ++ [.inl (t, x)]) H1 locs → W p l e R s m args below meth c H1 locs (cells + 1) (slots + n.toNatClampNeg) Q (F0 m (pc + 2) ls (.ref (xe_ad base old h.length) :: rest))) : W p l e R s m args below meth c H locs cells slots Q (F0 m pc ls (.int n :: rest)) := by
  obtain ⟨hx, hb, -, hown, hts, -, -, -, -, hK, -⟩ := F
  subst hty
  refine va_newaK hx hb (hts _ hac) rfl hdg rfl hn rfl (Nat.le_trans (Nat.mul_le_mul hn2 hby) (by decide)) hcells hslots rfl fun H1 cI e1 z1 o1 hAr hNm => ?_
  have e0 := hR.1
  rw [xe_ad_lt ho] at kk
  have hcI : cI = cA t := Option.some.inj (hNm.symm.trans (hpr _ _ (hK.2 t _ (xe_tys_at htt)).2))
  subst hcI
  show W p l e R s m args below meth c H1 locs (cells + 1) (slots + n.toNatClampNeg) Q (F0 m (pc + 2) ls (.ref H.size :: rest))
  rw [e0]
  refine kk H1 (hR.push ho ?_ z1 o1)
  show H1[base + h.length]? = some (vp_cell _ _)
  rw [hx0, ← e0]
  exact e1
theorem xe_wanew (F : xe_F ov D cA old base p s m args meth c mi) (hR : xe_Rl D cA old base s.heap h H locs) {t idx : Nat} {C : String} {n : Int32} (ho : h.length < xe_o) (htt : xe_ty[t]? = some (.object C)) (hcl : Jvm.Cond.classLink (xe_mY mi).cls idx C ∈ xe_G) (hov : C ∈ xe_ov) (hn : ¬ n < 0) (hn2 : n.toNatClampNeg ≤ 60000)
    (hcells : cells + 1 ≤ R.cells) (hslots : slots + n.toNatClampNeg ≤ R.slots) (hdg : decode (xe_mB mi) pc = .ok (.anewarray idx, 3))
    (kk : ∀ H1 : Heap, xe_Rl D cA old base s.heap (h ++ [.inl (t, .inr (.inr (List.replicate n.toNatClampNeg none)))]) H1 locs → W p l e R s m args below meth c H1 locs (cells + 1) (slots + n.toNatClampNeg) Q (F0 m (pc + 3) ls (.ref (xe_ad base old h.length) :: rest))) : W p l e R s m args below meth c H locs cells slots Q (F0 m pc ls (.int n :: rest)) := by
  obtain ⟨hx, hb, -, hown, hts, -, -, -, -, hK, -, hAO, -⟩ := F
  refine W.anew hx hb hown (hts _ hcl) (va_AO.use (hAO C hov)) rfl hdg rfl hn (Nat.le_trans (Nat.mul_le_mul hn2 (Nat.le_refl 4)) (by decide)) hcells hslots fun cI kA comp f1 f2 f3 f4 => ?_
  obtain ⟨-, -, -, -, -, g4⟩ := (hK.2 t _ (xe_tys_at htt)).2
  have hcI : cI = cA t := Option.some.inj (f1.symm.trans g4)
  subst hcI
  have e0 := hR.1
  rw [xe_ad_lt ho] at kk
  generalize hH1 : H.push ({ cls := cA t, slots := Array.replicate n.toNatClampNeg .null, vm := .none } : Cell) = H1
  have z1 : H1.size = H.size + 1 := by rw [← hH1, Array.size_push]
  have e1 : H1[H.size]? = some (arrV (cA t) n.toNatClampNeg (fun _ => .null)) := by rw [← hH1, Array.getElem?_push_size, ← arrV_new]
  have o1 : ∀ q : Nat, q < H.size → H1[q]? = H[q]? := fun q hq => by rw [← hH1, Array.getElem?_push, if_neg (Nat.ne_of_lt hq)]
  show W p l e R s m args below meth c H1 locs (cells + 1) (slots + n.toNatClampNeg) Q (F0 m (pc + 3) ls (.ref H.size :: rest))
  rw [e0]
  refine kk H1 (hR.push ho ?_ z1 o1)
  show H1[base + h.length]? = some (vp_cell _ _)
  rw [← e0, e1]
  dsimp only
  rw [xe_cq, List.length_replicate]
  congr 2
  funext q
  rw [xe_rep]
  rfl
end XER
