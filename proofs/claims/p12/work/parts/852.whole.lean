theorem lh_all (xl : List Int32) (hl : xl.length ≤ 3072) (ov : List (List Int32)) (hov0 : ov[0]? = some xl) (hov1 : ov[1]? = some [10, 0, 0, 0, 0, 0]) (hov2 : ov[2]? = some [99, 30, 50, 50, 1, 99999]) : ∃ (n : Nat) (h' : xe_H), xe_ex (xo_J ov) ov n 100 195 (0, [(0, .ref 1000000)], [], []) = some (some (.int 1), h') ∧ h'.length ≤ 601024 ∧ xe_sz h' ≤ 7293034 := by
  have hJ : ∀ d mj as h, mj ≠ xe_loff → xo_J ov d mj as h = none := fun d mj as h hm => xo_J_none (Or.inr hm)
  have hw : xw (xo_J ov) ov 100 195 (0, [(0, .ref 1000000)], [], []) xf_Z := by
    refine lw_first hJ (fun h0 F hlen hsz => ?_)
    exact lw_loop hJ hov1 hov2 hov0 hl (fun v h T hn => xo_typ hov1 hov2 v h T hn) 3073 0 h0 (by decide) (by decide) (xt_fresh F) (xI_fresh F) (by rw [hlen]; decide) (by rw [hsz]; decide) (by decide)
  obtain ⟨n, r, h', hex, hr, h1, h2⟩ := hw
  subst hr
  exact ⟨n, h', hex, h1, h2⟩
/-! From the law's entry to its end -/
theorem xo_begin {p : Program} {s : State} {m : MethodId} {meth : Method} {c : Code} {b L : Nat} {xs : Nat → Int32} (C0 : lw_At p s m meth c b L xs) : xo_K s.heap.size s := by
  obtain ⟨hx, hb, hr, hml, hown, hts, hX, hbl, hlocks, hgv⟩ := C0
  have hs := flat_of_before _ hgv
  have hA : ∀ a : Nat, a < s.heap.size → ¬ (fun q => s.heap.size ≤ q) a := fun a h => Nat.not_le.mpr h
  have hi : (Jvm.Cond.initialized Bundle.tN).before #[Value.ref b] s = true := hts _ (by decide +kernel)
  have hst : (Jvm.Cond.stringRef "DampHouse" 195 xo_tx).before #[Value.ref b] s = true := hts _ (by decide +kernel)
  refine ⟨vx_Zqof (hts _ (by decide +kernel)) hi (hs _ (by decide +kernel)) hA, vx_Zqof (hts _ (by decide +kernel)) hi (hs _ (by decide +kernel)) hA, ?_, va_Nw.of rfl (hts _ (by decide +kernel)), va_Nw.of rfl (hts _ (by decide +kernel)), va_Nw.of rfl (hts _ (by decide +kernel)), va_Nw.of rfl (hts _ (by decide +kernel))⟩
  cases hq : s.vm.findClass "DampHouse" with
  | none =>
    have h1 := hst
    simp [Cond.before, Cond.holds, Cond.value, hq] at h1
  | some k =>
    obtain ⟨-, -, -, a, -, -, -, -, -, ha⟩ := Cond.stringRef_spec hq hst
    exact ⟨a, vk_R.of hst ha⟩
theorem xo_start {p : Program} {e : Env} {s : State} {m : MethodId} {below : List Frame} {meth : Method} {c : Code} (l : Launch) (htr : l.stackTraces = false) {b L : Nat} {xs : Nat → Int32} (hL : L ≤ 3072) (C0 : lw_At p s m meth c b L xs) : W p l e room_1 s m #[Value.ref b] below meth c s.heap [] 0 0 (lw_Z below #[Value.ref b] s) (entryFrame m ([Value.ref b] : List Value).toArray 8) := by
  obtain ⟨D, cA, old, ho, F⟩ := xe_begin C0
  have hX := xo_begin C0
  have hlen : ((List.range L).map xs).length ≤ 3072 := by rw [List.length_map, List.length_range]; exact hL
  obtain ⟨n, h', hex, hc, hz⟩ := lh_all _ hlen (xe_ov0 ((List.range L).map xs)) rfl rfl rfl
  obtain ⟨-, hw⟩ := xe_top (J := xo_J (xe_ov0 ((List.range L).map xs))) (l := l) (e := e) (R := room_1) (below := below) (dt := 99) (fun d mj as h hd => xo_J_none (Or.inl (by omega))) F (xo_Jok htr F hX) n _ _ h' hex
  obtain ⟨hx, hb, hr, hml, hown, hts, hX, hbl, hlocks, hgv⟩ := C0
  have hl := lv_entry ([.ref b]) (n := 8) (Nat.le_of_ble_eq_true rfl)
  rw [lg_entry_eq]
  generalize (lg_sl ([.ref b]) ++ List.replicate (8 - (lg_sl ([.ref b])).length) Slot.unset).toArray = ls at hl ⊢
  have e1 : xe_ad s.heap.size old xe_o = b := by rw [xe_ad_ge (Nat.lt_irrefl _), Nat.sub_self, ho]
  have hl : lv_has ls (xe_mL xe_law) (([(0, Value.ref xe_o)] : List (Nat × Value)).map (xe_q (xe_ad s.heap.size old))) := by
    show lv_has ls 8 [(0, .ref (xe_ad s.heap.size old xe_o))]
    rw [e1]
    exact hl
  refine hw s.heap [] (lw_Z below #[Value.ref b] s) ls 0 0 ⟨rfl, Nat.zero_le _, va_S.rf, fun k x hk => by cases hk⟩ hl (Nat.le_refl _) (Nat.zero_le _) (by show _ ≤ 0 + 601024; omega) (by show _ ≤ 0 + 7293034; omega) (by decide) (by decide) ?_
  intro pc ls1 H1 locs1 hR1 hrt
  refine va_forget (fun q hq => hR1.2.2.1.2.2 q hq) ?_
  refine W.widen (k := 601024) (n := 7293034) (by omega) (by omega) ?_
  exact lw_ret hx hb hr hlocks hrt.1
theorem whole_start {p : Program} {e : Env} {s : State} {m : MethodId} {below : List Frame} {meth : Method} {c : Code} (l : Launch) (htr : l.stackTraces = false) {b L : Nat} {xs : Nat → Int32} (hL : L ≤ 3072) (C0 : lw_At p s m meth c b L xs) : W p l e room_1 s m #[Value.ref b] below meth c s.heap [] 0 0 (lw_Z below #[Value.ref b] s) (entryFrame m ([Value.ref b] : List Value).toArray 8) := xo_start l htr hL C0
