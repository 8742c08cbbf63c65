/-! From the law's entry to the pure machine -/
def xe_ov0 (xl : List Int32) : List (List Int32) := [xl, [10, 0, 0, 0, 0, 0], [99, 30, 50, 50, 1, 99999]]
theorem xe_tys_inv {cA : Nat → ClassId} {k : Nat} {q : ClassId × FieldType} (h : (xe_tys cA)[k]? = some q) : ∃ ty, xe_ty[k]? = some ty ∧ q = (cA k, ty) := by
  unfold xe_tys at h
  rw [List.getElem?_map, List.getElem?_zipIdx] at h
  cases hq : xe_ty[k]? with
  | none => rw [hq] at h; cases h
  | some ty =>
    rw [hq] at h
    refine ⟨ty, rfl, ?_⟩
    simp at h
    exact h.symm
theorem xe_arrP {s : State} {args : Array Value} {ty : FieldType} (h : (Jvm.Cond.arrayClass ty).before args s = true) (hp : ∀ cA, s.vm.findClass ("[" ++ ty.toString) = some cA → va_RA s cA ty) : ∃ x : ClassId, ArrOfT s x ty ∧ va_RA s x ty := by
  obtain ⟨c, k, comp, h1, h2, h3⟩ := Cond.arrayClass_spec h
  exact ⟨c, fun n z => ⟨fun k h => (by cases h), k, h2, comp, h3⟩, hp c h1⟩
theorem xe_arrO {s : State} {args : Array Value} {C : String} (h : (Jvm.Cond.arrayOver (.object C)).before args s = true) : ∃ x : ClassId, ArrOfT s x (.object C) ∧ va_RA s x (.object C) := by
  obtain ⟨comp, c, k, f1, -, f3, f4, f5⟩ := Cond.arrayOver_spec h
  exact ⟨c, fun n z => ⟨fun k h => (by cases h), k, f3, comp, f4⟩, k, comp, f3, f4, f1, f5⟩
theorem xe_tab {args : Array Value} {s : State} {n : String} {v0 v1 v2 v3 v4 v5 : Int32} (hl : (Jvm.Cond.laysStatic "DampHouse" n "[I").before args s = true) (hini : (Jvm.Cond.initialized "DampHouse").before args s = true) (harr : (Jvm.Cond.arrayOf (.static "DampHouse" n "[I") .int).before args s = true) (hlen : (Jvm.Cond.eq (.length (.static "DampHouse" n "[I")) (.int 6)).before args s = true)
    (h0 : (Jvm.Cond.eq (.elem (.static "DampHouse" n "[I") (.int 0)) (.int v0)).before args s = true) (h1 : (Jvm.Cond.eq (.elem (.static "DampHouse" n "[I") (.int 1)) (.int v1)).before args s = true) (h2 : (Jvm.Cond.eq (.elem (.static "DampHouse" n "[I") (.int 2)) (.int v2)).before args s = true) (h3 : (Jvm.Cond.eq (.elem (.static "DampHouse" n "[I") (.int 3)) (.int v3)).before args s = true) (h4 : (Jvm.Cond.eq (.elem (.static "DampHouse" n "[I") (.int 4)) (.int v4)).before args s = true) (h5 : (Jvm.Cond.eq (.elem (.static "DampHouse" n "[I") (.int 5)) (.int v5)).before args s = true) :
    ∃ t : Nat, va_T .int t 6 (fun i => .int (([v0, v1, v2, v3, v4, v5] : List Int32).getD i 0)) (fun q => s.heap.size ≤ q) s s.heap ∧ va_Z "DampHouse" n "[I" (.ref t) (fun q => s.heap.size ≤ q) s s.heap := by
  have hA : ∀ a : Nat, a < s.heap.size → ¬ (fun q => s.heap.size ≤ q) a := fun a h => Nat.not_le.mpr h
  obtain ⟨t, e1, e2⟩ := va_Tof (N := 6) (f := fun i => .int (([v0, v1, v2, v3, v4, v5] : List Int32).getD i 0)) (by decide) harr (va_eqt hlen) (fun j hj => by
    match j, hj with
    | 0, _ => exact va_eqt h0
    | 1, _ => exact va_eqt h1
    | 2, _ => exact va_eqt h2
    | 3, _ => exact va_eqt h3
    | 4, _ => exact va_eqt h4
    | 5, _ => exact va_eqt h5
    | n + 6, h => exact absurd h (by omega)) hA
  exact ⟨t, e2, va_Zref hl hini e1 hA⟩
theorem xe_begin {p : Program} {s : State} {m : MethodId} {meth : Method} {c : Code} {b L : Nat} {xs : Nat → Int32} (C0 : lw_At p s m meth c b L xs) : ∃ (D : va_G) (cA : Nat → ClassId) (old : Nat → Nat), old 0 = b ∧ xe_F (xe_ov0 ((List.range L).map xs)) D cA old s.heap.size p s m #[Value.ref b] meth c xe_law := by
  obtain ⟨hx, hb, hr, hml, hown, hts, hX, hbl, hlocks, hgv⟩ := C0
  have hG : ∀ w ∈ xe_G, w.before #[Value.ref b] s = true := fun w hw => hts w (List.mem_filter.mp hw).1
  have hs := flat_of_before _ hgv
  have hD : ∀ ci : Nat, ∃ x : ClassId × (Nat → Nat), ∀ q : vw_C, xe_cls[ci]? = some q → u_Kn s q.1 q.2.1 q.2.2 x.1 x.2 := by
    intro ci
    cases hq : xe_cls[ci]? with
    | none => exact ⟨(0, fun _ => 0), fun q h => by cases h⟩
    | some q =>
      obtain ⟨C, T, N⟩ := q
      obtain ⟨c1, c2, -⟩ := xe_cok hq
      obtain ⟨cC, iS, h⟩ := u_known hG c1 (hG _ c2)
      exact ⟨(cC, iS), fun q h1 => by cases h1; exact h⟩
  obtain ⟨fD, hfD⟩ := Classical.axiomOfChoice hD
  have hAr : ∀ t : Nat, ∃ x : ClassId, ∀ ty, xe_ty[t]? = some ty → ArrOfT s x ty ∧ va_RA s x ty := by
    intro t
    match t with
    | 0 => obtain ⟨x, h⟩ := xe_arrP (ty := .int) (hts _ (List.mem_of_getElem? (i := 109) (by decide +kernel))) (fun _ h => h); exact ⟨x, fun ty e => by cases e; exact h⟩
    | 1 => obtain ⟨x, h⟩ := xe_arrP (ty := .long) (hts _ (List.mem_of_getElem? (i := 261) (by decide +kernel))) (fun _ h => h); exact ⟨x, fun ty e => by cases e; exact h⟩
    | 2 => obtain ⟨x, h⟩ := xe_arrP (ty := .boolean) (hts _ (List.mem_of_getElem? (i := 1140) (by decide +kernel))) (fun _ h => h); exact ⟨x, fun ty e => by cases e; exact h⟩
    | 3 => obtain ⟨x, h⟩ := xe_arrO (C := "DampHouse$Room") (hts _ (List.mem_of_getElem? (i := 85) (by decide +kernel))); exact ⟨x, fun ty e => by cases e; exact h⟩
    | 4 => obtain ⟨x, h⟩ := xe_arrO (C := "DampHouse$Wall") (hts _ (List.mem_of_getElem? (i := 87) (by decide +kernel))); exact ⟨x, fun ty e => by cases e; exact h⟩
    | 5 => obtain ⟨x, h⟩ := xe_arrO (C := "DampHouse$Cause") (hts _ (List.mem_of_getElem? (i := 89) (by decide +kernel))); exact ⟨x, fun ty e => by cases e; exact h⟩
    | 6 => obtain ⟨x, h⟩ := xe_arrO (C := "DampHouse$Trial") (hts _ (List.mem_of_getElem? (i := 344) (by decide +kernel))); exact ⟨x, fun ty e => by cases e; exact h⟩
    | n + 7 => exact ⟨0, fun ty e => by cases e⟩
  obtain ⟨cA, hcA⟩ := Classical.axiomOfChoice hAr
  have hini : (Jvm.Cond.initialized "DampHouse").before #[Value.ref b] s = true := hts _ (List.mem_of_getElem? (i := 49) (by decide +kernel))
  obtain ⟨t1, T1, Z1⟩ := xe_tab (n := "ROOM_LEAST") (v0 := 10) (v1 := 0) (v2 := 0) (v3 := 0) (v4 := 0) (v5 := 0) (hts _ (List.mem_of_getElem? (i := 412) (by decide +kernel))) hini (hs _ (by decide +kernel)) (hs _ (by decide +kernel)) (hs _ (by decide +kernel)) (hs _ (by decide +kernel)) (hs _ (by decide +kernel)) (hs _ (by decide +kernel)) (hs _ (by decide +kernel)) (hs _ (by decide +kernel))
  obtain ⟨t2, T2, Z2⟩ := xe_tab (n := "ROOM_MOST") (v0 := 99) (v1 := 30) (v2 := 50) (v3 := 50) (v4 := 1) (v5 := 99999) (hts _ (List.mem_of_getElem? (i := 414) (by decide +kernel))) hini (hs _ (by decide +kernel)) (hs _ (by decide +kernel)) (hs _ (by decide +kernel)) (hs _ (by decide +kernel)) (hs _ (by decide +kernel)) (hs _ (by decide +kernel)) (hs _ (by decide +kernel)) (hs _ (by decide +kernel))
  refine ⟨(fun ci => (fD ci).1, fun ci => (fD ci).2), cA, fun j => match j with | 0 => b | 1 => t1 | _ => t2, rfl, hx, hb, hml, hown, hG, hr, hlocks, fun q => absurd q (by decide +kernel), Nat.le_refl _, ⟨fun ci q hq => hfD ci q hq, fun k q hk => ?_⟩, fun w hw => ?_, fun C hC => ?_, fun j x hx1 => ?_, fun z hz => ?_⟩
  · obtain ⟨ty, h1, rfl⟩ := xe_tys_inv hk
    exact hcA k ty h1
  · have h1 := List.mem_filter.mp hw
    refine va_Nw.of ?_ (hts w h1.1)
    have h2 := h1.2
    cases w <;> first | rfl | cases h2
  · have h1 : ∀ C ∈ xe_ov, Jvm.Cond.arrayOver (.object C) ∈ lw_tbl := by
      intro C hC
      have h2 : xe_ov.all (fun C => decide (Jvm.Cond.arrayOver (.object C) ∈ lw_tbl)) = true := by decide +kernel
      exact of_decide_eq_true (List.all_eq_true.mp h2 C hC)
    exact va_AO.of (hts _ (h1 C hC))
  · match j, hx1 with
    | 0, e =>
      cases e
      obtain ⟨scr, q1, q2, q3, q4, q5⟩ := hX
      refine ⟨scr, q1, q2, q3, ?_, ?_, ?_, Nat.not_le.mpr hbl⟩
      · rw [List.length_map, List.length_range, q4]; exact Nat.le_refl _
      · rw [List.length_map, List.length_range, q4]
      · intro j hj
        rw [List.length_map, List.length_range] at hj
        dsimp only
        rw [q5 j hj, List.getD_eq_getElem?_getD, List.getElem?_map, List.getElem?_range hj]
        rfl
    | 1, e => cases e; exact T1
    | 2, e => cases e; exact T2
    | n + 3, e => cases e
  · simp only [xe_zs, List.mem_cons, List.not_mem_nil, or_false] at hz
    rcases hz with rfl | rfl
    · exact Z1
    · exact Z2
