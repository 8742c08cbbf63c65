/-! Fewer locals: what runs with some of the locals runs so with all of them -/
def lvS (a b : List (Nat × Value)) : Prop := (∀ q ∈ b, q ∈ a) ∧ (a.map fun q => q.1).Nodup
theorem lvS_ld {a b : List (Nat × Value)} (hS : lvS a b) {i : Nat} {v : Value} (h : xe_ld b i = some v) : xe_ld a i = some v := by
  have hm := hS.1 _ (xe_ld_mem h)
  have hn := hS.2
  clear hS h
  induction a with
  | nil => cases hm
  | cons q a ih =>
    rw [List.map_cons, List.nodup_cons] at hn
    unfold xe_ld
    rw [List.find?_cons]
    rcases List.mem_cons.mp hm with e | e
    · subst e
      simp
    · have hne : q.1 ≠ i := fun hq => hn.1 (by rw [hq]; exact List.mem_map_of_mem (f := fun q : Nat × Value => q.1) e)
      have hb : (q.1 == i) = false := beq_eq_false_iff_ne.mpr hne
      rw [hb]
      exact ih e hn.2
theorem lvS_filter {a b : List (Nat × Value)} (hS : lvS a b) (p : Nat × Value → Bool) (i : Nat) (v : Value) (hp : ∀ q, p q = true → q.1 ≠ i) : lvS ((i, v) :: a.filter p) ((i, v) :: b.filter p) := by
  refine ⟨fun q hq => ?_, ?_⟩
  · rcases List.mem_cons.mp hq with e | e
    · rw [e]; exact List.mem_cons_self
    · have h1 := List.mem_filter.mp e
      exact List.mem_cons_of_mem _ (List.mem_filter.mpr ⟨hS.1 _ h1.1, h1.2⟩)
  · rw [List.map_cons, List.nodup_cons]
    refine ⟨fun hm => ?_, List.Nodup.sublist (List.Sublist.map _ List.filter_sublist) hS.2⟩
    obtain ⟨q, h1, h2⟩ := List.mem_map.mp hm
    exact hp q (List.mem_filter.mp h1).2 h2
theorem lvS_st1 {a b : List (Nat × Value)} (hS : lvS a b) (i : Nat) (v : Value) : lvS (xe_st1 a i v) (xe_st1 b i v) :=
  lvS_filter hS _ i v (fun q hq => by
    rw [Bool.and_eq_true, Bool.not_eq_true'] at hq
    exact beq_eq_false_iff_ne.mp hq.1)
theorem lvS_st2 {a b : List (Nat × Value)} (hS : lvS a b) (i : Nat) (v : Value) : lvS (xe_st2 a i v) (xe_st2 b i v) :=
  lvS_filter hS _ i v (fun q hq => by
    rw [Bool.and_eq_true, Bool.not_eq_true'] at hq
    exact beq_eq_false_iff_ne.mp hq.1)
def xe_swap (a : List (Nat × Value)) : xe_N → xe_N
  | .inl S => .inl (S.1, a, S.2.2)
  | .inr z => .inr z
def xe_isL : Instr → Bool
  | .iload_n _ | .iload _ | .lload_n _ | .lload _ | .aload_n _ | .aload _ | .istore_n _ | .istore _ | .lstore_n _ | .lstore _ | .astore_n _ | .astore _ | .iinc _ _ => true
  | _ => false
set_option maxHeartbeats 2000000 in
theorem xe_i_swap {ov : List (List Int32)} {mi : Nat} {i : Instr} {ax : List Nat} {pc : Nat} {a b : List (Nat × Value)} {st : List Value} {h : xe_H} (hi : xe_isL i = false) : xe_i ov mi i ax pc a st h = (xe_i ov mi i ax pc b st h).map (xe_swap a) := by
  cases i <;> first
    | (cases hi; done)
    | rfl
    | (simp only [xe_i, xe_p1, xe_p2, xe_pL, xe_pLL, xe_pLI, xe_pR, xe_pRI, xe_pA, xe_gi, xe_gl, xe_gw, xe_gq, xe_go, xe_on]; (repeat' split) <;> first | rfl | simp_all)
theorem xe_onY {x : xe_S} {y : xe_N} (h : xe_on x = some y) : y = .inl x := (Option.some.inj h).symm
def xe_lvN (b : List (Nat × Value)) : xe_N → List (Nat × Value)
  | .inl S => S.2.1
  | .inr _ => b
theorem xe_sim {ov : List (List Int32)} {mi : Nat} {pc : Nat} {a b : List (Nat × Value)} {st : List Value} {h : xe_H} (hS : lvS a b) {y : xe_N} (hn : xe_nx ov mi (pc, b, st, h) = some y) : ∃ a', lvS a' (xe_lvN b y) ∧ xe_nx ov mi (pc, a, st, h) = some (xe_swap a' y) := by
  unfold xe_nx at hn ⊢
  dsimp only at hn ⊢
  cases hc : xe_code mi pc with
  | none => rw [hc] at hn; cases hn
  | some q =>
    obtain ⟨i, ax⟩ := q
    rw [hc] at hn
    dsimp only at hn ⊢
    by_cases hi : xe_isL i = false
    · rw [xe_i_swap (a := a) (b := b) hi, hn]
      refine ⟨a, ?_, rfl⟩
      cases y with
      | inl S =>
        have h1 := xe_i_swap (ov := ov) (mi := mi) (ax := ax) (pc := pc) (a := b) (b := b) (st := st) (h := h) hi
        rw [hn] at h1
        have h2 : S = (S.1, b, S.2.2) := Sum.inl.inj (Option.some.inj h1)
        have h3 : S.2.1 = b := congrArg (fun S : xe_S => S.2.1) h2
        show lvS a S.2.1
        rw [h3]
        exact hS
      | inr z => exact hS
    · cases i with
      | iload_n k =>
        obtain ⟨x, h1, hn⟩ := xe_ldI_inv hn
        cases xe_onY hn
        exact ⟨a, hS, by simp only [xe_i, lvS_ld hS h1]; rfl⟩
      | iload k =>
        obtain ⟨x, h1, hn⟩ := xe_ldI_inv hn
        cases xe_onY hn
        exact ⟨a, hS, by simp only [xe_i, lvS_ld hS h1]; rfl⟩
      | lload_n k =>
        obtain ⟨x, h1, hn⟩ := xe_ldL_inv hn
        cases xe_onY hn
        exact ⟨a, hS, by simp only [xe_i, lvS_ld hS h1]; rfl⟩
      | lload k =>
        obtain ⟨x, h1, hn⟩ := xe_ldL_inv hn
        cases xe_onY hn
        exact ⟨a, hS, by simp only [xe_i, lvS_ld hS h1]; rfl⟩
      | aload_n k =>
        dsimp only [xe_i] at hn
        split at hn
        · rename_i x h1
          cases xe_onY hn
          exact ⟨a, hS, by simp only [xe_i, lvS_ld hS h1]; rfl⟩
        · cases hn
      | aload k =>
        dsimp only [xe_i] at hn
        split at hn
        · rename_i x h1
          cases xe_onY hn
          exact ⟨a, hS, by simp only [xe_i, lvS_ld hS h1]; rfl⟩
        · cases hn
      | istore_n k =>
        obtain ⟨x, r, rfl, hn⟩ := xe_p1_inv hn
        obtain ⟨h1, hn⟩ := xe_if_inv hn
        cases xe_onY hn
        exact ⟨_, lvS_st1 hS _ _, if_pos h1⟩
      | istore k =>
        obtain ⟨x, r, rfl, hn⟩ := xe_p1_inv hn
        obtain ⟨h1, hn⟩ := xe_if_inv hn
        cases xe_onY hn
        exact ⟨_, lvS_st1 hS _ _, if_pos h1⟩
      | lstore_n k =>
        obtain ⟨x, r, rfl, hn⟩ := xe_pL_inv hn
        obtain ⟨h1, hn⟩ := xe_if_inv hn
        cases xe_onY hn
        exact ⟨_, lvS_st2 hS _ _, if_pos h1⟩
      | lstore k =>
        obtain ⟨x, r, rfl, hn⟩ := xe_pL_inv hn
        obtain ⟨h1, hn⟩ := xe_if_inv hn
        cases xe_onY hn
        exact ⟨_, lvS_st2 hS _ _, if_pos h1⟩
      | astore_n k =>
        obtain ⟨x, r, rfl, hn⟩ := xe_pR_inv hn
        obtain ⟨h1, hn⟩ := xe_if_inv hn
        cases xe_onY hn
        exact ⟨_, lvS_st1 hS _ _, if_pos h1⟩
      | astore k =>
        obtain ⟨x, r, rfl, hn⟩ := xe_pR_inv hn
        obtain ⟨h1, hn⟩ := xe_if_inv hn
        cases xe_onY hn
        exact ⟨_, lvS_st1 hS _ _, if_pos h1⟩
      | iinc k n =>
        obtain ⟨x, h1, hn⟩ := xe_ldI_inv hn
        obtain ⟨h2, hn⟩ := xe_if_inv hn
        cases xe_onY hn
        refine ⟨_, lvS_st1 hS _ _, ?_⟩
        simp only [xe_i, lvS_ld hS h1, xe_ldI]
        exact if_pos h2
      | _ => exact absurd rfl hi
theorem xe_ex_lv {J : xe_J} {ov : List (List Int32)} : ∀ (n d mi pc : Nat) (a b : List (Nat × Value)) (st : List Value) (h : xe_H) (y : Option Value × xe_H), lvS a b → xe_ex J ov n d mi (pc, b, st, h) = some y → xe_ex J ov n d mi (pc, a, st, h) = some y := by
  intro n
  induction n with
  | zero => intro d mi pc a b st h y _ he; cases he
  | succ n ih =>
    intro d mi pc a b st h y hS he
    rw [xe_ex_succ] at he ⊢
    cases hnx : xe_nx ov mi (pc, b, st, h) with
    | none => rw [hnx] at he; cases he
    | some z =>
      obtain ⟨a', hS', ha⟩ := xe_sim hS hnx
      rw [hnx] at he
      rw [ha]
      rcases z with S' | r1 | ⟨mj, as, st1⟩
      · exact ih d mi S'.1 a' S'.2.1 S'.2.2.1 S'.2.2.2 y hS' he
      · exact he
      · cases d with
        | zero => cases he
        | succ d' =>
          dsimp only [xe_swap] at he ⊢
          cases hj : J d' mj as h with
          | some q =>
            rw [hj] at he
            obtain ⟨r2, h2⟩ := q
            exact ih (d' + 1) mi (pc + 3) a b _ h2 y hS he
          | none =>
            rw [hj] at he
            dsimp only at he ⊢
            by_cases hcat : (as.map fun v : Value => v.category).sum ≤ xe_mL mj
            · rw [if_pos hcat] at he ⊢
              cases hz : xe_ex J ov n d' mj (0, lv_args 0 as, [], h) with
              | none => rw [hz] at he; cases he
              | some q =>
                rw [hz] at he
                obtain ⟨r2, h2⟩ := q
                exact ih (d' + 1) mi (pc + 3) a b _ h2 y hS he
            · rw [if_neg hcat] at he
              cases he
theorem xw_lv {J : xe_J} {ov : List (List Int32)} {d mi pc : Nat} {a b : List (Nat × Value)} {st : List Value} {h : xe_H} {Q : Option Value → xe_H → Prop} (hS : lvS a b) (k : xw J ov d mi (pc, b, st, h) Q) : xw J ov d mi (pc, a, st, h) Q := by
  obtain ⟨n, r, h', he, hq⟩ := k
  exact ⟨n, r, h', xe_ex_lv n d mi pc a b st h _ hS he, hq⟩
