/-! Runs of the pure machine, with some fuel -/
theorem xe_fuel1 {J : xe_J} {ov : List (List Int32)} : ∀ (n d mi : Nat) (S : xe_S) (y : Option Value × xe_H), xe_ex J ov n d mi S = some y → xe_ex J ov (n + 1) d mi S = some y := by
  intro n
  induction n with
  | zero => intro d mi S y h; cases h
  | succ n ih =>
    intro d mi S y h
    rw [xe_ex_succ] at h ⊢
    cases hnx : xe_nx ov mi S with
    | none => rw [hnx] at h; cases h
    | some q =>
      rw [hnx] at h
      rcases q with S' | r1 | ⟨mj, as, st1⟩
      · exact ih d mi S' y h
      · exact h
      · dsimp only at h ⊢
        cases d with
        | zero => cases h
        | succ d' =>
          dsimp only at h ⊢
          cases hj : J d' mj as S.2.2.2 with
          | some q =>
            rw [hj] at h
            obtain ⟨r2, h2⟩ := q
            exact ih (d' + 1) mi _ y h
          | none =>
            rw [hj] at h
            dsimp only at h ⊢
            by_cases hcat : (as.map fun v : Value => v.category).sum ≤ xe_mL mj
            · rw [if_pos hcat] at h ⊢
              cases hz : xe_ex J ov n d' mj (0, lv_args 0 as, [], S.2.2.2) with
              | none => rw [hz] at h; cases h
              | some q =>
                rw [hz] at h
                rw [ih d' mj _ q hz]
                obtain ⟨r2, h2⟩ := q
                exact ih (d' + 1) mi _ y h
            · rw [if_neg hcat] at h
              cases h
theorem xe_fuel {J : xe_J} {ov : List (List Int32)} {n d mi : Nat} {S : xe_S} {y : Option Value × xe_H} (h : xe_ex J ov n d mi S = some y) : ∀ k, xe_ex J ov (n + k) d mi S = some y
  | 0 => h
  | k + 1 => xe_fuel1 _ _ _ _ _ (xe_fuel h k)
def xr (J : xe_J) (ov : List (List Int32)) (d mi : Nat) (S : xe_S) (y : Option Value × xe_H) : Prop := ∃ n, xe_ex J ov n d mi S = some y
section XR
variable {J : xe_J} {ov : List (List Int32)} {d mi : Nat} {y : Option Value × xe_H}
theorem xr_on {S S' : xe_S} (h : xe_nx ov mi S = some (.inl S')) (k : xr J ov d mi S' y) : xr J ov d mi S y := by
  obtain ⟨n, hn⟩ := k
  refine ⟨n + 1, ?_⟩
  rw [xe_ex_succ, h]
  exact hn
theorem xr_ret {S : xe_S} {r : Option Value} (h : xe_nx ov mi S = some (.inr (.inl r))) : xr J ov d mi S (r, S.2.2.2) := by
  refine ⟨1, ?_⟩
  rw [xe_ex_succ, h]
theorem xr_call {S : xe_S} {mj : Nat} {as st1 : List Value} {r : Option Value} {h' : xe_H} (h : xe_nx ov mi S = some (.inr (.inr (mj, as, st1)))) (hj : J d mj as S.2.2.2 = none) (hc : (as.map fun v : Value => v.category).sum ≤ xe_mL mj) (hr : xr J ov d mj (0, lv_args 0 as, [], S.2.2.2) (r, h')) (k : xr J ov (d + 1) mi (S.1 + 3, S.2.1, r.toList ++ st1, h') y) : xr J ov (d + 1) mi S y := by
  obtain ⟨n1, e1⟩ := hr
  obtain ⟨n2, e2⟩ := k
  refine ⟨n1 + n2 + 1, ?_⟩
  rw [xe_ex_succ, h]
  dsimp only
  rw [hj]
  dsimp only
  rw [if_pos hc, xe_fuel e1 n2]
  dsimp only
  rw [Nat.add_comm n1 n2]
  exact xe_fuel e2 n1
theorem xr_callJ {S : xe_S} {mj : Nat} {as st1 : List Value} {r : Option Value} {h' : xe_H} (h : xe_nx ov mi S = some (.inr (.inr (mj, as, st1)))) (hj : J d mj as S.2.2.2 = some (r, h')) (k : xr J ov (d + 1) mi (S.1 + 3, S.2.1, r.toList ++ st1, h') y) : xr J ov (d + 1) mi S y := by
  obtain ⟨n2, e2⟩ := k
  refine ⟨n2 + 1, ?_⟩
  rw [xe_ex_succ, h]
  dsimp only
  rw [hj]
  exact e2
theorem xe_nx_of {pc : Nat} {i : Instr} {ax : List Nat} {lv : List (Nat × Value)} {st : List Value} {h : xe_H} (hc : xe_code mi pc = some (i, ax)) : xe_nx ov mi (pc, lv, st, h) = xe_i ov mi i ax pc lv st h := by
  unfold xe_nx
  dsimp only
  rw [hc]
end XR
