/-! Further rows: arrays of references, and loops by hand -/
section XW2
variable {J : xe_J} {ov : List (List Int32)} {d mi : Nat} {Q : Option Value → xe_H → Prop}
variable {pc pc' : Nat} {ax : List Nat} {lv lv' : List (Nat × Value)} {st : List Value} {h : xe_H}
theorem xi_anewarray {t a N m : Nat} {n : Int32} (hc : xe_code mi pc = some (.anewarray m, ax)) (hp : pc + 3 = pc') (h0 : ax.headD 0 = t) (hl : h.length = a) (ho : a < xe_o) (hn : ¬ n < 0) (hN : n.toNatClampNeg = N) (hm : N ≤ 60000) (kk : ∀ h', h'[a]? = some (.inl (t, .inr (.inr (List.replicate N none)))) → (∀ j, j < a → h'[j]? = h[j]?) → h'.length = a + 1 → xe_sz h' = xe_sz h + N → xw J ov d mi (pc', lv, .ref a :: st, h') Q) : xw J ov d mi (pc, lv, .int n :: st, h) Q := by
  subst hl; subst hN; subst h0
  refine xw_on ?_ (kk (h ++ [.inl (ax.headD 0, .inr (.inr (List.replicate n.toNatClampNeg none)))]) (by simp) (fun j hj => List.getElem?_append_left hj) (by simp) (by rw [xe_sz_push]; simp [xe_w]))
  rw [xe_nx_of hc]
  subst hp
  exact if_pos ⟨ho, hn, hm⟩
theorem xi_aastore {a t b ci : Nat} {C : String} {x x' : List (Option Nat)} {i : Int32} {fs : List Value} (hc : xe_code mi pc = some (.aastore, ax)) (hp : pc + 1 = pc') (e : h[a]? = some (.inl (t, .inr (.inr x)))) (ht : xe_ty[t]? = some (.object C)) (eb : h[b]? = some (.inr (ci, fs))) (hcl : (xe_cls[ci]?).map (fun q => q.1) = some C) (hi : ¬ (i < 0 ∨ x.length ≤ i.toNatClampNeg)) (hs : x.set i.toNatClampNeg (some b) = x') (kk : ∀ h', xh h a (.inl (t, .inr (.inr x'))) h' → xw J ov d mi (pc', lv, st, h') Q) : xw J ov d mi (pc, lv, .ref b :: .int i :: .ref a :: st, h) Q := by
  subst hs
  refine xw_on ?_ (kk _ (xh_set e (by simp [xe_w])))
  rw [xe_nx_of hc]
  subst hp
  simp only [xe_i, xe_pR, xe_pRI, xe_gq, e, ht, eb]
  exact if_pos ⟨hcl, hi⟩
theorem xh_tr {h h1 h2 : xe_H} {a : Nat} {x y : xe_E} (e1 : xh h a x h1) (e2 : xh h1 a y h2) : xh h a y h2 := ⟨e2.1, fun j hj => (e2.2.1 j hj).trans (e1.2.1 j hj), e2.2.2.1.trans e1.2.2.1, e2.2.2.2.trans e1.2.2.2⟩
theorem xh_rf {h : xe_H} {a : Nat} {x : xe_E} (e : h[a]? = some x) : xh h a x h := ⟨e, fun _ _ => rfl, rfl, rfl⟩
theorem xf_step {α : Type} {k : Nat} {v : α} {x : List α} (hk : k < x.length) : (List.replicate k v ++ x.drop k).set k v = List.replicate (k + 1) v ++ x.drop (k + 1) := by
  have e1 : x.drop k = x[k] :: x.drop (k + 1) := List.drop_eq_getElem_cons hk
  have e2 : (List.replicate k v ++ x.drop k).set k v = List.replicate k v ++ (x.drop k).set 0 v := by
    rw [List.set_append_right _ _ (by simp), List.length_replicate, Nat.sub_self]
  rw [e2, e1, List.set_cons_zero, List.replicate_succ', List.append_assoc]
  rfl
end XW2
