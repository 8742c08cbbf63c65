/-! What a cell may hold -/
abbrev xt_F : Type := Value ⊕ Option (Int × Int)
def xt_f : xt_F → Value → Prop
  | .inl w, v => v = w
  | .inr (some q), v => ∃ x : Int32, v = .int x ∧ q.1 ≤ x.toInt ∧ x.toInt ≤ q.2
  | .inr none, v => ∃ x : Int64, v = .long x
def xt_all : List xt_F → List Value → Prop
  | [], [] => True
  | d :: ds, v :: fs => xt_f d v ∧ xt_all ds fs
  | _, _ => False
theorem xt_cons {d : xt_F} {ds : List xt_F} {fs : List Value} (h : xt_all (d :: ds) fs) : ∃ (v : Value) (r : List Value), fs = v :: r ∧ xt_f d v ∧ xt_all ds r := by
  cases fs with
  | nil => exact h.elim
  | cons v r => exact ⟨v, r, rfl, h.1, h.2⟩
theorem xt_nil {fs : List Value} (h : xt_all [] fs) : fs = [] := by
  cases fs with
  | nil => rfl
  | cons v r => exact h.elim
theorem xt_set : ∀ (ds : List xt_F) (fs : List Value) (k : Nat) (d : xt_F) (v : Value), xt_all ds fs → ds[k]? = some d → xt_f d v → xt_all ds (fs.set k v)
  | [], _, _, _, _, _, hk, _ => by cases hk
  | e :: ds, [], _, _, _, h, _, _ => h.elim
  | e :: ds, w :: fs, 0, d, v, h, hk, hv => by
    cases hk
    exact ⟨hv, h.2⟩
  | e :: ds, w :: fs, k + 1, d, v, h, hk, hv => ⟨h.1, xt_set ds fs k d v h.2 hk hv⟩
abbrev xt_D : Type := (Nat × List xt_F) ⊕ (Nat × Nat × Int × Int) ⊕ (Nat × Nat) ⊕ xe_E
def xt_c : xt_D → xe_E → Prop
  | .inl q, x => ∃ fs : List Value, x = .inr (q.1, fs) ∧ xt_all q.2 fs
  | .inr (.inl q), x => ∃ l : List Int32, x = .inl (q.1, .inl l) ∧ l.length = q.2.1 ∧ ∀ i, i < q.2.1 → q.2.2.1 ≤ (l.getD i 0).toInt ∧ (l.getD i 0).toInt ≤ q.2.2.2
  | .inr (.inr (.inl q)), x => ∃ l : List Int64, x = .inl (q.1, .inr (.inl l)) ∧ l.length = q.2
  | .inr (.inr (.inr y)), x => x = y
