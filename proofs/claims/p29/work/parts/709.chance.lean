/-! CHANCE: ones of a number, ways to choose, sets as bits -/
def xon : Nat → Nat → Nat
  | 0, _ => 0
  | f + 1, b => b % 2 + xon f (b / 2)
theorem xp16 {i : Nat} (h : i ≤ 16) : 2 ^ i ≤ 65536 := Nat.le_trans (Nat.pow_le_pow_right (by decide) h) (by decide)
theorem xon_le : ∀ f b, xon f b ≤ f
  | 0, _ => Nat.le_refl _
  | f + 1, b => by
    have h := xon_le f (b / 2)
    show b % 2 + xon f (b / 2) ≤ f + 1
    omega
theorem xon_add : ∀ m k b, xon (m + k) b = xon m b + xon k (b / 2 ^ m)
  | 0, k, b => by
    show xon (0 + k) b = 0 + xon k (b / 2 ^ 0)
    rw [Nat.zero_add, Nat.zero_add, Nat.pow_zero, Nat.div_one]
  | m + 1, k, b => by
    rw [show m + 1 + k = (m + k) + 1 by omega]
    show b % 2 + xon (m + k) (b / 2) = b % 2 + xon m (b / 2) + xon k (b / 2 ^ (m + 1))
    rw [xon_add m k (b / 2), Nat.div_div_eq_div_mul, show 2 * 2 ^ m = 2 ^ (m + 1) by rw [Nat.pow_succ]; omega]
    omega
theorem xon_mod : ∀ m b, xon m (b % 2 ^ m) = xon m b
  | 0, _ => rfl
  | m + 1, b => by
    show b % 2 ^ (m + 1) % 2 + xon m (b % 2 ^ (m + 1) / 2) = b % 2 + xon m (b / 2)
    rw [show 2 ^ (m + 1) = 2 * 2 ^ m by rw [Nat.pow_succ]; omega, Nat.mod_mod_of_dvd b (Nat.dvd_mul_right 2 (2 ^ m)), Nat.mod_mul_right_div_self, xon_mod m (b / 2)]
theorem xon_zero : ∀ f, xon f 0 = 0
  | 0 => rfl
  | f + 1 => by
    have h := xon_zero f
    show 0 % 2 + xon f (0 / 2) = 0
    rw [Nat.zero_div]
    omega
theorem xon_lt {n b : Nat} (h : b < 2 ^ n) (m : Nat) : xon (n + m) b = xon n b := by
  rw [xon_add, Nat.div_eq_of_lt h, xon_zero] <;> rfl
/-- ways to choose k more of the places p, p + 1 .. (r of them), with j JOINS or more, c chosen -/
def xwf (b : Nat → Nat) : Nat → Nat → Nat → Nat → Int → Nat
  | 0, _, k, _, j => if k = 0 ∧ j ≤ 0 then 1 else 0
  | r + 1, p, k, c, j => xwf b r (p + 1) k c j + (if k = 0 then 0 else xwf b r (p + 1) (k - 1) (c + 2 ^ p) (j - (xon 16 (b p &&& c) : Nat)))
theorem xwf_0 {b : Nat → Nat} : ∀ (r p c : Nat) (j : Int), xwf b r p 0 c j = if j ≤ 0 then 1 else 0
  | 0, p, c, j => by
    show (if 0 = 0 ∧ j ≤ 0 then 1 else 0) = _
    by_cases h : j ≤ 0
    · rw [if_pos ⟨rfl, h⟩, if_pos h]
    · rw [if_neg (fun q => h q.2), if_neg h]
  | r + 1, p, c, j => by
    show xwf b r (p + 1) 0 c j + (if 0 = 0 then 0 else xwf b r (p + 1) (0 - 1) (c + 2 ^ p) (j - (xon 16 (b p &&& c) : Nat))) = _
    rw [if_pos rfl, xwf_0 r (p + 1) c j] <;> rfl
theorem xwf_few {b : Nat → Nat} : ∀ (r p k c : Nat) (j : Int), r < k → xwf b r p k c j = 0
  | 0, p, k, c, j, h => by
    show (if k = 0 ∧ j ≤ 0 then 1 else 0) = 0
    rw [if_neg (fun q => by omega)]
  | r + 1, p, k, c, j, h => by
    show xwf b r (p + 1) k c j + (if k = 0 then 0 else xwf b r (p + 1) (k - 1) (c + 2 ^ p) (j - (xon 16 (b p &&& c) : Nat))) = 0
    rw [xwf_few r (p + 1) k c j (by omega), if_neg (by omega), xwf_few r (p + 1) (k - 1) _ _ (by omega)]
theorem xwf_step {b : Nat → Nat} {r p k c : Nat} {j : Int} (hk : k ≠ 0) : xwf b (r + 1) p k c j = xwf b r (p + 1) k c j + xwf b r (p + 1) (k - 1) (c + 2 ^ p) (j - (xon 16 (b p &&& c) : Nat)) := by
  show xwf b r (p + 1) k c j + (if k = 0 then 0 else xwf b r (p + 1) (k - 1) (c + 2 ^ p) (j - (xon 16 (b p &&& c) : Nat))) = _
  rw [if_neg hk]
/-- how many numbers below n are such -/
noncomputable def xcn (P : Nat → Prop) : Nat → Nat
  | 0 => 0
  | n + 1 => xcn P n + @ite _ (P n) (Classical.propDecidable _) 1 0
theorem xcn_yes {P : Nat → Prop} {n : Nat} (h : P n) : xcn P (n + 1) = xcn P n + 1 := by
  show xcn P n + @ite _ (P n) (Classical.propDecidable _) 1 0 = _
  rw [if_pos h]
theorem xcn_no {P : Nat → Prop} {n : Nat} (h : ¬ P n) : xcn P (n + 1) = xcn P n := by
  show xcn P n + @ite _ (P n) (Classical.propDecidable _) 1 0 = _
  rw [if_neg h] <;> rfl
theorem xcn_congr {P Q : Nat → Prop} : ∀ n, (∀ t, t < n → (P t ↔ Q t)) → xcn P n = xcn Q n
  | 0, _ => rfl
  | n + 1, h => by
    have ih := xcn_congr n (fun t ht => h t (by omega))
    by_cases q : P n
    · rw [xcn_yes q, xcn_yes ((h n (by omega)).mp q), ih]
    · rw [xcn_no q, xcn_no (fun z => q ((h n (by omega)).mpr z)), ih]
theorem xcn_none {P : Nat → Prop} : ∀ n, (∀ t, t < n → ¬ P t) → xcn P n = 0
  | 0, _ => rfl
  | n + 1, h => by rw [xcn_no (h n (by omega)), xcn_none n (fun t ht => h t (by omega))]
theorem xcn_one {P : Nat → Prop} {c : Nat} : ∀ n, c < n → P c → (∀ t, t < n → P t → t = c) → xcn P n = 1
  | 0, h, _, _ => by omega
  | n + 1, h, hp, hu => by
    by_cases q : n = c
    · subst q
      rw [xcn_yes hp, xcn_none n (fun t ht hq => by have := hu t (by omega) hq; omega)]
    · rw [xcn_no (fun z => q (hu n (by omega) z)), xcn_one n (by omega) hp (fun t ht => hu t (by omega))]
theorem xcn_sum {P Q R : Nat → Prop} : ∀ n, (∀ t, t < n → (P t ↔ Q t ∨ R t)) → (∀ t, t < n → ¬ (Q t ∧ R t)) → xcn P n = xcn Q n + xcn R n
  | 0, _, _ => rfl
  | n + 1, h, hd => by
    have ih := xcn_sum n (fun t ht => h t (by omega)) (fun t ht => hd t (by omega))
    have h1 := h n (by omega)
    have h2 := hd n (by omega)
    by_cases q : Q n
    · have hr : ¬ R n := fun z => h2 ⟨q, z⟩
      rw [xcn_yes (h1.mpr (Or.inl q)), xcn_yes q, xcn_no hr, ih]
      omega
    · by_cases r : R n
      · rw [xcn_yes (h1.mpr (Or.inr r)), xcn_no q, xcn_yes r, ih]
        omega
      · rw [xcn_no (fun z => (h1.mp z).elim q r), xcn_no q, xcn_no r, ih]
/-- bits of a set from place p on, and JOINS of them -/
def xhi : Nat → Nat → Nat → Nat
  | 0, _, _ => 0
  | r + 1, p, T => T / 2 ^ p % 2 + xhi r (p + 1) T
def xhj (b : Nat → Nat) : Nat → Nat → Nat → Nat
  | 0, _, _ => 0
  | r + 1, p, T => (if T / 2 ^ p % 2 = 1 then xon 16 (b p &&& (T % 2 ^ p)) else 0) + xhj b r (p + 1) T
theorem xhi_on : ∀ r p T, xhi r p T = xon r (T / 2 ^ p)
  | 0, _, _ => rfl
  | r + 1, p, T => by
    show T / 2 ^ p % 2 + xhi r (p + 1) T = T / 2 ^ p % 2 + xon r (T / 2 ^ p / 2)
    rw [xhi_on r (p + 1) T, Nat.div_div_eq_div_mul, ← Nat.pow_succ]
theorem xmod_succ (T p : Nat) : T % 2 ^ (p + 1) = T % 2 ^ p + 2 ^ p * (T / 2 ^ p % 2) := Nat.mod_pow_succ
/-- the ways are the sets -/
theorem xwf_cn {b : Nat → Nat} {n : Nat} : ∀ (r p k c : Nat) (j : Int), r + p = n → c < 2 ^ p → xwf b r p k c j = xcn (fun T => T % 2 ^ p = c ∧ xhi r p T = k ∧ j ≤ (xhj b r p T : Int)) (2 ^ n)
  | 0, p, k, c, j, hr, hc => by
    have hp : p = n := by omega
    subst hp
    show (if k = 0 ∧ j ≤ 0 then 1 else 0) = _
    by_cases h : k = 0 ∧ j ≤ 0
    · rw [if_pos h]
      refine (xcn_one (c := c) _ hc ⟨Nat.mod_eq_of_lt hc, h.1.symm, h.2⟩ (fun t ht hq => ?_)).symm
      have := hq.1
      rw [Nat.mod_eq_of_lt ht] at this
      exact this
    · rw [if_neg h]
      exact (xcn_none _ (fun t ht hq => h ⟨hq.2.1.symm, hq.2.2⟩)).symm
  | r + 1, p, k, c, j, hr, hc => by
    have hpow : 2 ^ (p + 1) = 2 ^ p + 2 ^ p := by rw [Nat.pow_succ]; omega
    have i1 := xwf_cn (b := b) (n := n) r (p + 1) k c j (by omega) (by omega)
    have i2 := xwf_cn (b := b) (n := n) r (p + 1) (k - 1) (c + 2 ^ p) (j - (xon 16 (b p &&& c) : Nat)) (by omega) (by omega)
    show xwf b r (p + 1) k c j + (if k = 0 then 0 else xwf b r (p + 1) (k - 1) (c + 2 ^ p) (j - (xon 16 (b p &&& c) : Nat))) = _
    have key : ∀ T, (T / 2 ^ p % 2 = 0 ∧ T % 2 ^ (p + 1) = T % 2 ^ p ∧ xhi (r + 1) p T = xhi r (p + 1) T ∧ xhj b (r + 1) p T = xhj b r (p + 1) T) ∨ (T / 2 ^ p % 2 = 1 ∧ T % 2 ^ (p + 1) = T % 2 ^ p + 2 ^ p ∧ xhi (r + 1) p T = 1 + xhi r (p + 1) T ∧ xhj b (r + 1) p T = xon 16 (b p &&& (T % 2 ^ p)) + xhj b r (p + 1) T) := by
      intro T
      have hm := xmod_succ T p
      have e1 : xhi (r + 1) p T = T / 2 ^ p % 2 + xhi r (p + 1) T := rfl
      have e2 : xhj b (r + 1) p T = (if T / 2 ^ p % 2 = 1 then xon 16 (b p &&& (T % 2 ^ p)) else 0) + xhj b r (p + 1) T := rfl
      have hb : T / 2 ^ p % 2 = 0 ∨ T / 2 ^ p % 2 = 1 := by omega
      rcases hb with q | q
      · left
        rw [q, Nat.mul_zero, Nat.add_zero] at hm
        rw [q, Nat.zero_add] at e1
        rw [if_neg (by omega), Nat.zero_add] at e2
        exact ⟨q, hm, e1, e2⟩
      · right
        rw [q, Nat.mul_one] at hm
        rw [q] at e1
        rw [if_pos q] at e2
        exact ⟨q, hm, e1, e2⟩
    by_cases hk : k = 0
    · rw [if_pos hk, Nat.add_zero, i1]
      refine xcn_congr _ (fun T _ => ?_)
      have hT : T % 2 ^ p < 2 ^ p := Nat.mod_lt _ (Nat.two_pow_pos p)
      rcases key T with ⟨_, q1, q2, q3⟩ | ⟨_, q1, q2, q3⟩
      · rw [q1, q2, q3]
      · constructor
        · intro h
          exfalso
          have := h.1
          omega
        · intro h
          exfalso
          have := h.2.1
          omega
    · rw [if_neg hk, i1, i2]
      refine (xcn_sum _ (fun T _ => ?_) (fun T _ h => ?_)).symm
      · have hT : T % 2 ^ p < 2 ^ p := Nat.mod_lt _ (Nat.two_pow_pos p)
        rcases key T with ⟨_, q1, q2, q3⟩ | ⟨_, q1, q2, q3⟩
        · rw [q1, q2, q3]
          constructor
          · intro h
            exact Or.inl h
          · intro h
            rcases h with h | h
            · exact h
            · exfalso
              have := h.1
              omega
        · rw [q1, q2, q3]
          constructor
          · intro h
            have h1 := h.1
            right
            rw [h1] at h
            refine ⟨by omega, by omega, ?_⟩
            have h3 := h.2.2
            omega
          · intro h
            rcases h with h | h
            · exfalso
              have := h.1
              omega
            · have h1 : T % 2 ^ p = c := by have := h.1; omega
              rw [h1]
              refine ⟨rfl, by have := h.2.1; omega, ?_⟩
              have h3 := h.2.2
              omega
      · have h1 := h.1.1
        have h2 := h.2.1
        have := Nat.two_pow_pos p
        omega
/-- what is beside one, of sets below it -/
theorem xland_mod {b T i : Nat} (hb : b < 2 ^ i) : b &&& (T % 2 ^ i) = b &&& T := by
  have h1 : (b &&& T) % 2 ^ i = (b % 2 ^ i) &&& (T % 2 ^ i) := Nat.and_mod_two_pow
  rw [Nat.mod_eq_of_lt hb] at h1
  rw [← h1]
  exact Nat.mod_eq_of_lt (Nat.lt_of_le_of_lt Nat.and_le_left hb)
/-- the class's ways are the reference's count -/
theorem xwf_all {b : Nat → Nat} {n k : Nat} {j : Int} (hn : n ≤ 16) : xwf b n 0 k 0 j = xcn (fun T => xon 16 T = k ∧ j ≤ (xhj b n 0 T : Int)) (2 ^ n) := by
  rw [xwf_cn (b := b) (n := n) n 0 k 0 j (Nat.add_zero n) (by decide)]
  refine xcn_congr _ (fun T hT => ?_)
  have h1 : xhi n 0 T = xon 16 T := by
    rw [xhi_on, Nat.pow_zero, Nat.div_one]
    have := xon_lt hT (16 - n)
    rw [show n + (16 - n) = 16 by omega] at this
    exact this.symm
  rw [h1, Nat.pow_zero, Nat.mod_one]
  constructor
  · intro h
    exact h.2
  · intro h
    exact ⟨rfl, h⟩
theorem xwf_congr {b b' : Nat → Nat} : ∀ (r p k c : Nat) (j : Int), (∀ q, p ≤ q → q < p + r → b q = b' q) → xwf b r p k c j = xwf b' r p k c j
  | 0, _, _, _, _, _ => rfl
  | r + 1, p, k, c, j, h => by
    show xwf b r (p + 1) k c j + (if k = 0 then 0 else xwf b r (p + 1) (k - 1) (c + 2 ^ p) (j - (xon 16 (b p &&& c) : Nat))) = xwf b' r (p + 1) k c j + (if k = 0 then 0 else xwf b' r (p + 1) (k - 1) (c + 2 ^ p) (j - (xon 16 (b' p &&& c) : Nat)))
    rw [h p (Nat.le_refl _) (by omega), xwf_congr r (p + 1) k c j (fun q h1 h2 => h q (by omega) (by omega)), xwf_congr r (p + 1) (k - 1) (c + 2 ^ p) _ (fun q h1 h2 => h q (by omega) (by omega))]
/-! Numbers of Java -/
theorem xnI {x : Int32} {n : Nat} (h : x.toInt = (n : Int)) : x = nI n := by
  have hr := xc_rng x
  exact xc_of (by rw [nI_toInt (by omega)]; exact h)
theorem xnt {x : Int32} {n : Nat} (e : x = nI n) (hn : n < 2 ^ 31) : x.toInt = (n : Int) := by rw [e]; exact nI_toInt hn
theorem xn_and (a b : Nat) : nI a &&& nI b = nI (a &&& b) := by
  apply Int32.toBitVec_inj.1
  show BitVec.ofNat 32 a &&& BitVec.ofNat 32 b = BitVec.ofNat 32 (a &&& b)
  apply BitVec.eq_of_getLsbD_eq
  intro i hi
  simp [hi]
theorem xn_or (a b : Nat) : nI a ||| nI b = nI (a ||| b) := by
  apply Int32.toBitVec_inj.1
  show BitVec.ofNat 32 a ||| BitVec.ofNat 32 b = BitVec.ofNat 32 (a ||| b)
  apply BitVec.eq_of_getLsbD_eq
  intro i hi
  simp [hi]
theorem xn_sh : ∀ n : Fin 17, (1 : Int32) <<< (nI n.val &&& 31) = nI (2 ^ n.val) := by decide +kernel
theorem xn_shl {x vb : Int32} {n : Nat} (hx : x.toInt = (n : Int)) (hn : n ≤ 16) (e : (1 : Int32) <<< (x &&& 31) = vb) : vb = nI (2 ^ n) := by
  rw [← e, xnI hx]
  exact xn_sh ⟨n, by omega⟩
theorem xn_orb {x y vb v : Int32} {m n : Nat} (hx : x = nI m) (hm : m < 2 ^ n) (hy : y.toInt = (n : Int)) (hn : n ≤ 16) (eb : (1 : Int32) <<< (y &&& 31) = vb) (ev : x ||| vb = v) : v = nI (m + 2 ^ n) := by
  rw [← ev, hx, xn_shl hy hn eb, xn_or]
  have h := Nat.two_pow_add_eq_or_of_lt hm 1
  rw [Nat.mul_one] at h
  rw [Nat.or_comm, ← h, Nat.add_comm]
/-! bitCount -/
def xb1 (n : Nat) : Nat := n - (n / 2 &&& 1431655765)
def xb2 (n : Nat) : Nat := (n &&& 858993459) + (n / 4 &&& 858993459)
def xb3 (n : Nat) : Nat := n + n / 16 &&& 252645135
def xb4 (n : Nat) : Nat := n + n / 256
def xb5 (n : Nat) : Nat := n + n / 65536
def xb6 (n : Nat) : Nat := xb5 (xb4 (xb3 (xb2 (xb1 n)))) &&& 63
theorem xb6_all : ∀ a : Fin 256, ∀ b : Fin 256, xb6 (256 * a.val + b.val) = xon 8 b.val + xon 8 a.val := by decide +kernel
theorem xb6_on {n : Nat} (h : n < 65536) : xb6 n = xon 16 n := by
  have h1 := xb6_all ⟨n / 256, by omega⟩ ⟨n % 256, by omega⟩
  dsimp only at h1
  rw [show 256 * (n / 256) + n % 256 = n by omega] at h1
  have h2 := xon_add 8 8 n
  have h3 : xon 8 (n % 256) = xon 8 n := xon_mod 8 n
  rw [h1, h2, h3]
theorem xb6_b {n : Nat} (h : n < 65536) : xb1 n < 65536 ∧ xb2 (xb1 n) < 131072 ∧ xb3 (xb2 (xb1 n)) < 262144 ∧ xb4 (xb3 (xb2 (xb1 n))) < 524288 := by
  have a1 : xb1 n ≤ n := Nat.sub_le _ _
  have a2 : xb2 (xb1 n) ≤ xb1 n + xb1 n / 4 := Nat.add_le_add Nat.and_le_left Nat.and_le_left
  have a3 : xb3 (xb2 (xb1 n)) ≤ xb2 (xb1 n) + xb2 (xb1 n) / 16 := Nat.and_le_left
  have a4 : xb4 (xb3 (xb2 (xb1 n))) = xb3 (xb2 (xb1 n)) + xb3 (xb2 (xb1 n)) / 256 := rfl
  omega
section BC
variable {J : xe_J} {ov : List (List Int32)} {d : Nat} {Q : Option Value → xe_H → Prop} {h : xe_H}
theorem xn_ush {n k : Nat} (hn : n < 2 ^ 32) (s : Int32) (hs : ((s.toUInt32 &&& Int32.toUInt32 31).toBitVec % 32).toNat = k) {c : Nat} (hc : 2 ^ k = c) : ((nI n).toUInt32 >>> (s.toUInt32 &&& Int32.toUInt32 31)).toInt32 = nI (n / c) := by
  rw [pk_ushrN hn s k hs, hc]
end BC
theorem xbc_ok {x v1 v2 v3 v4 v5 v6 v7 v8 v9 w1 w2 w3 w4 w5 w6 : Int32} {n : Nat} (hx : x = nI n) (hn : n < 65536)
    (e1 : (x.toUInt32 >>> ((1 : Int32).toUInt32 &&& Int32.toUInt32 31)).toInt32 = v1) (e2 : v1 &&& 1431655765 = v2) (e3 : x - v2 = v3)
    (e4 : v3 &&& 858993459 = v4) (e5 : (v3.toUInt32 >>> ((2 : Int32).toUInt32 &&& Int32.toUInt32 31)).toInt32 = v5) (e6 : v5 &&& 858993459 = v6) (e7 : v4 + v6 = v7)
    (e8 : (v7.toUInt32 >>> ((4 : Int32).toUInt32 &&& Int32.toUInt32 31)).toInt32 = v8) (e9 : v7 + v8 = v9) (f1 : v9 &&& 252645135 = w1)
    (f2 : (w1.toUInt32 >>> ((8 : Int32).toUInt32 &&& Int32.toUInt32 31)).toInt32 = w2) (f3 : w1 + w2 = w3)
    (f4 : (w3.toUInt32 >>> ((16 : Int32).toUInt32 &&& Int32.toUInt32 31)).toInt32 = w4) (f5 : w3 + w4 = w5) (f6 : w5 &&& 63 = w6) : w6 = nI (xon 16 n) := by
  obtain ⟨b1, b2, b3, b4⟩ := xb6_b hn
  have g1 : v1 = nI (n / 2) := by rw [← e1, hx]; exact xn_ush (by omega) 1 (k := 1) rfl rfl
  have g2 : v2 = nI (n / 2 &&& 1431655765) := by rw [← e2, g1]; exact xn_and _ 1431655765
  have g3 : v3 = nI (xb1 n) := by rw [← e3, g2, hx]; exact pk_sub (Nat.le_trans Nat.and_le_left (Nat.div_le_self _ _))
  have g4 : v4 = nI (xb1 n &&& 858993459) := by rw [← e4, g3]; exact xn_and _ 858993459
  have g5 : v5 = nI (xb1 n / 4) := by rw [← e5, g3]; exact xn_ush (by omega) 2 (k := 2) rfl rfl
  have g6 : v6 = nI (xb1 n / 4 &&& 858993459) := by rw [← e6, g5]; exact xn_and _ 858993459
  have g7 : v7 = nI (xb2 (xb1 n)) := by rw [← e7, g4, g6]; exact nI_add _ _
  have g8 : v8 = nI (xb2 (xb1 n) / 16) := by rw [← e8, g7]; exact xn_ush (by omega) 4 (k := 4) rfl rfl
  have g9 : v9 = nI (xb2 (xb1 n) + xb2 (xb1 n) / 16) := by rw [← e9, g7, g8]; exact nI_add _ _
  have k1 : w1 = nI (xb3 (xb2 (xb1 n))) := by rw [← f1, g9]; exact xn_and _ 252645135
  have k2 : w2 = nI (xb3 (xb2 (xb1 n)) / 256) := by rw [← f2, k1]; exact xn_ush (by omega) 8 (k := 8) rfl rfl
  have k3 : w3 = nI (xb4 (xb3 (xb2 (xb1 n)))) := by rw [← f3, k1, k2]; exact nI_add _ _
  have k4 : w4 = nI (xb4 (xb3 (xb2 (xb1 n))) / 65536) := by rw [← f4, k3]; exact xn_ush (by omega) 16 (k := 16) rfl rfl
  have k5 : w5 = nI (xb5 (xb4 (xb3 (xb2 (xb1 n))))) := by rw [← f5, k3, k4]; exact nI_add _ _
  have k6 : w6 = nI (xb6 n) := by rw [← f6, k5]; exact xn_and _ 63
  rw [k6, xb6_on hn]
/-! Known FLATS -/
def xkc (yd : List Int32) : Nat → Nat
  | 0 => 0
  | a + 1 => xkc yd a + (if (yd.getD a 0).toInt = 2 then 0 else 1)
def xkl (yd : List Int32) : Nat → List Nat
  | 0 => []
  | a + 1 => if (yd.getD a 0).toInt = 2 then xkl yd a else xkl yd a ++ [a]
def xK (yd : List Int32) (q : Nat) : Nat := (xkl yd 24).getD q 0
theorem xkc_u {yd : List Int32} {a : Nat} (h : (yd.getD a 0).toInt = 2) : xkc yd (a + 1) = xkc yd a := by
  show xkc yd a + (if (yd.getD a 0).toInt = 2 then 0 else 1) = _
  rw [if_pos h] <;> rfl
theorem xkc_k {yd : List Int32} {a : Nat} (h : ¬ (yd.getD a 0).toInt = 2) : xkc yd (a + 1) = xkc yd a + 1 := by
  show xkc yd a + (if (yd.getD a 0).toInt = 2 then 0 else 1) = _
  rw [if_neg h]
theorem xkl_u {yd : List Int32} {a : Nat} (h : (yd.getD a 0).toInt = 2) : xkl yd (a + 1) = xkl yd a := by
  show (if (yd.getD a 0).toInt = 2 then xkl yd a else xkl yd a ++ [a]) = _
  rw [if_pos h]
theorem xkl_k {yd : List Int32} {a : Nat} (h : ¬ (yd.getD a 0).toInt = 2) : xkl yd (a + 1) = xkl yd a ++ [a] := by
  show (if (yd.getD a 0).toInt = 2 then xkl yd a else xkl yd a ++ [a]) = _
  rw [if_neg h]
theorem xkc_le {yd : List Int32} : ∀ a, xkc yd a ≤ a
  | 0 => Nat.le_refl _
  | a + 1 => by
    have := xkc_le (yd := yd) a
    by_cases h : (yd.getD a 0).toInt = 2
    · rw [xkc_u h]; omega
    · rw [xkc_k h]; omega
theorem xkc_mono {yd : List Int32} {a : Nat} : ∀ k, xkc yd a ≤ xkc yd (a + k)
  | 0 => Nat.le_refl _
  | k + 1 => by
    have := xkc_mono (yd := yd) (a := a) k
    rw [← Nat.add_assoc]
    by_cases h : (yd.getD (a + k) 0).toInt = 2
    · rw [xkc_u h]; exact this
    · rw [xkc_k h]; omega
theorem xkc_top {yd : List Int32} {a : Nat} (ha : a ≤ 24) : xkc yd a ≤ xkc yd 24 := by
  have := xkc_mono (yd := yd) (a := a) (24 - a)
  rw [show a + (24 - a) = 24 by omega] at this
  exact this
theorem xkc_lt {yd : List Int32} {a : Nat} (ha : a < 24) (h : ¬ (yd.getD a 0).toInt = 2) : xkc yd a < xkc yd 24 := by
  have := xkc_top (yd := yd) (a := a + 1) (by omega)
  rw [xkc_k h] at this
  omega
theorem xkl_len {yd : List Int32} : ∀ a, (xkl yd a).length = xkc yd a
  | 0 => rfl
  | a + 1 => by
    by_cases h : (yd.getD a 0).toInt = 2
    · rw [xkc_u h, xkl_u h]; exact xkl_len a
    · rw [xkc_k h, xkl_k h, List.length_append, xkl_len a]; rfl
theorem xkl_pre {yd : List Int32} {a q : Nat} (hq : q < xkc yd a) : ∀ k, (xkl yd (a + k)).getD q 0 = (xkl yd a).getD q 0
  | 0 => rfl
  | k + 1 => by
    have ih := xkl_pre hq k
    rw [← Nat.add_assoc]
    by_cases h : (yd.getD (a + k) 0).toInt = 2
    · rw [xkl_u h]; exact ih
    · rw [xkl_k h, ← ih, List.getD_eq_getElem?_getD, List.getD_eq_getElem?_getD, List.getElem?_append_left]
      rw [xkl_len]
      have := xkc_mono (yd := yd) (a := a) k
      omega
theorem xK_at {yd : List Int32} {b : Nat} (hb : b < 24) (h : ¬ (yd.getD b 0).toInt = 2) : xK yd (xkc yd b) = b := by
  have h1 := xkl_pre (yd := yd) (a := b + 1) (q := xkc yd b) (by rw [xkc_k h]; omega) (23 - b)
  rw [show b + 1 + (23 - b) = 24 by omega] at h1
  unfold xK
  rw [h1, xkl_k h, List.getD_eq_getElem?_getD, List.getElem?_append_right (by rw [xkl_len]; exact Nat.le_refl _), xkl_len, Nat.sub_self] <;> rfl
theorem xK_is {yd : List Int32} {q : Nat} : ∀ m, m ≤ 24 → q < xkc yd m → xK yd q < m ∧ ¬ (yd.getD (xK yd q) 0).toInt = 2 ∧ xkc yd (xK yd q) = q
  | 0, _, h => absurd h (Nat.not_lt_zero _)
  | m + 1, hm, hq => by
    by_cases h : (yd.getD m 0).toInt = 2
    · rw [xkc_u h] at hq
      have ih := xK_is m (by omega) hq
      exact ⟨by omega, ih.2⟩
    · rw [xkc_k h] at hq
      by_cases h2 : q < xkc yd m
      · have ih := xK_is m (by omega) h2
        exact ⟨by omega, ih.2⟩
      · have h3 : q = xkc yd m := by omega
        rw [h3, xK_at (by omega) h]
        exact ⟨by omega, h, rfl⟩
/-- what is beside one of those ahead of it, as bits; how many are damp -/
def xbs (ys yf : List Int32) (a b : Nat) : Prop := (((ys.getD a 0).toInt - (ys.getD b 0).toInt = 0 ∧ ((yf.getD a 0).toInt - (yf.getD b 0).toInt = 1 ∨ (yf.getD a 0).toInt - (yf.getD b 0).toInt = -1)) ∨ ((yf.getD a 0).toInt - (yf.getD b 0).toInt = 0 ∧ ((ys.getD a 0).toInt - (ys.getD b 0).toInt = 1 ∨ (ys.getD a 0).toInt - (ys.getD b 0).toInt = -1)))
noncomputable def xrn (ys yf : List Int32) (K : Nat → Nat) (a : Nat) : Nat → Nat
  | 0 => 0
  | j + 1 => xrn ys yf K a j + @ite _ (xbs ys yf a (K j)) (Classical.propDecidable _) (2 ^ j) 0
theorem xrn_y {ys yf : List Int32} {K : Nat → Nat} {a j : Nat} (h : xbs ys yf a (K j)) : xrn ys yf K a (j + 1) = xrn ys yf K a j + 2 ^ j := by
  show xrn ys yf K a j + @ite _ (xbs ys yf a (K j)) (Classical.propDecidable _) (2 ^ j) 0 = _
  rw [if_pos h]
theorem xrn_n {ys yf : List Int32} {K : Nat → Nat} {a j : Nat} (h : ¬ xbs ys yf a (K j)) : xrn ys yf K a (j + 1) = xrn ys yf K a j := by
  show xrn ys yf K a j + @ite _ (xbs ys yf a (K j)) (Classical.propDecidable _) (2 ^ j) 0 = _
  rw [if_neg h] <;> rfl
theorem xrn_lt {ys yf : List Int32} {K : Nat → Nat} {a : Nat} : ∀ j, xrn ys yf K a j < 2 ^ j
  | 0 => Nat.two_pow_pos 0
  | j + 1 => by
    have := xrn_lt (ys := ys) (yf := yf) (K := K) (a := a) j
    have hp : 2 ^ (j + 1) = 2 ^ j + 2 ^ j := by rw [Nat.pow_succ]; omega
    by_cases h : xbs ys yf a (K j)
    · rw [xrn_y h]; omega
    · rw [xrn_n h]; omega
def xrd (yd : List Int32) : Nat → Nat
  | 0 => 0
  | q + 1 => xrd yd q + (yd.getD (xK yd q) 0).toInt.toNat
noncomputable def xbb (ys yf yd : List Int32) (q : Nat) : Nat := xrn ys yf (xK yd) (xK yd q) q
theorem xrd_le {yd : List Int32} (r : ∀ i, i < 24 → 0 ≤ (yd.getD i 0).toInt ∧ (yd.getD i 0).toInt ≤ 2) : ∀ q, q ≤ xkc yd 24 → xrd yd q ≤ q
  | 0, _ => Nat.le_refl _
  | q + 1, h => by
    have ih := xrd_le r q (by omega)
    have hk := xK_is (yd := yd) (q := q) 24 (Nat.le_refl _) (by omega)
    have h2 := r (xK yd q) hk.1
    have h3 := hk.2.1
    show xrd yd q + (yd.getD (xK yd q) 0).toInt.toNat ≤ q + 1
    omega
/-! steps of the loops -/
section ST
variable {ys yf yd : List Int32} {x1 x2 x3 x4 v w : Int32}
theorem xkc_e {i : Int32} {k : Nat} (e : x1 = nI (xkc yd k)) (hk : k ≤ 24) : x1.toInt = ((xkc yd k : Nat) : Int) ∧ xkc yd k ≤ k := by
  have := xkc_le (yd := yd) k
  exact ⟨xnt e (by omega), this⟩
theorem xcl {i : Int32} {k : Nat} (h : i.toInt = (k : Int)) : i.toNatClampNeg = k := by
  have := xj_tn (i := i) (by omega)
  omega
theorem xcl1 {i j : Int32} (h0 : 0 ≤ i.toInt) (h : j.toInt = i.toInt + 1) : j.toNatClampNeg = i.toNatClampNeg + 1 := by
  have q1 := xj_tn h0
  have q2 := xj_tn (i := j) (by omega)
  omega
theorem xk_st0 (e : x1 = nI (xkc yd x2.toNatClampNeg)) (h2 : (yd.getD x2.toNatClampNeg 0).toInt = 2) (hv : v.toInt = x1.toInt) (h0 : 0 ≤ x2.toInt) (hw : w.toInt = x2.toInt + 1) : v = nI (xkc yd w.toNatClampNeg) := by
  rw [xcl1 h0 hw, xkc_u h2, ← e]
  exact xc_of hv
theorem xk_st1 (e : x1 = nI (xkc yd x2.toNatClampNeg)) (h2 : ¬ (yd.getD x2.toNatClampNeg 0).toInt = 2) (hv : v.toInt = x1.toInt + 1) (h0 : 0 ≤ x2.toInt) (h1 : x2.toInt ≤ 24) (hw : w.toInt = x2.toInt + 1) : v = nI (xkc yd w.toNatClampNeg) := by
  have q := xj_tn h0
  have h3 := xkc_e (i := x1) e (by omega)
  rw [xcl1 h0 hw, xkc_k h2]
  exact xnI (by omega)
theorem xk_end (e : x1 = nI (xkc yd x2.toNatClampNeg)) (h : x2.toInt = 24) : nI (xkc yd 24) = x1 := by
  rw [e, xcl (k := 24) h]
/-- the bits of those beside one -/
theorem xbt_0 {a : Nat} (e : x1 = nI (xrn ys yf (xK yd) a (xkc yd x2.toNatClampNeg))) (h2 : (yd.getD x2.toNatClampNeg 0).toInt = 2) (h0 : 0 ≤ x2.toInt) (hw : w.toInt = x2.toInt + 1) : x1 = nI (xrn ys yf (xK yd) a (xkc yd w.toNatClampNeg)) := by
  rw [xcl1 h0 hw, xkc_u h2]
  exact e
theorem xbt_n {a : Nat} (e : x1 = nI (xrn ys yf (xK yd) a (xkc yd x2.toNatClampNeg))) (h2 : ¬ (yd.getD x2.toNatClampNeg 0).toInt = 2) (hb : ¬ xbs ys yf a x2.toNatClampNeg) (h0 : 0 ≤ x2.toInt) (h1 : x2.toInt < 24) (hw : w.toInt = x2.toInt + 1) : x1 = nI (xrn ys yf (xK yd) a (xkc yd w.toNatClampNeg)) := by
  have q := xj_tn h0
  rw [xcl1 h0 hw, xkc_k h2, xrn_n (by rw [xK_at (by omega) h2]; exact hb)]
  exact e
theorem xbt_y {a : Nat} {vb : Int32} (e : x1 = nI (xrn ys yf (xK yd) a (xkc yd x2.toNatClampNeg))) (e3 : x3 = nI (xkc yd x2.toNatClampNeg)) (hn : xkc yd 24 ≤ 16) (h2 : ¬ (yd.getD x2.toNatClampNeg 0).toInt = 2) (hb : xbs ys yf a x2.toNatClampNeg) (h0 : 0 ≤ x2.toInt) (h1 : x2.toInt < 24) (hw : w.toInt = x2.toInt + 1) (eb : (1 : Int32) <<< (x3 &&& 31) = vb) (ev : x1 ||| vb = v) : v = nI (xrn ys yf (xK yd) a (xkc yd w.toNatClampNeg)) := by
  have q := xj_tn h0
  have q2 := xkc_lt (yd := yd) (a := x2.toNatClampNeg) (by omega) h2
  rw [xcl1 h0 hw, xkc_k h2, xrn_y (by rw [xK_at (by omega) h2]; exact hb)]
  exact xn_orb e (xrn_lt _) (xnt e3 (by omega)) (by omega) eb ev
end ST
/-! steps of the loops: rows -/
section ST2
variable {ys yf yd Bs Bs' yk yk' : List Int32} {x1 x2 x3 x4 u v w r bv vb : Int32}
theorem xd_st0 (e : x3 = nI (xrd yd (xkc yd x4.toNatClampNeg))) (h2 : (yd.getD x4.toNatClampNeg 0).toInt = 2) (h0 : 0 ≤ x4.toInt) (hw : w.toInt = x4.toInt + 1) : x3 = nI (xrd yd (xkc yd w.toNatClampNeg)) := by
  rw [xcl1 h0 hw, xkc_u h2]
  exact e
theorem xd_st1 (e : x3 = nI (xrd yd (xkc yd x4.toNatClampNeg))) (h2 : ¬ (yd.getD x4.toNatClampNeg 0).toInt = 2) (ryd : ∀ i, i < 24 → 0 ≤ (yd.getD i 0).toInt ∧ (yd.getD i 0).toInt ≤ 2) (hv : v.toInt = x3.toInt + (yd.getD x4.toNatClampNeg 0).toInt) (h0 : 0 ≤ x4.toInt) (h1 : x4.toInt < 24) (hw : w.toInt = x4.toInt + 1) : v = nI (xrd yd (xkc yd w.toNatClampNeg)) := by
  have q := xj_tn h0
  have h3 := xkc_top (yd := yd) (a := x4.toNatClampNeg) (by omega)
  have h4 := xrd_le ryd _ h3
  have h5 := xkc_le (yd := yd) x4.toNatClampNeg
  have h6 := xnt e (by omega)
  have h7 := ryd x4.toNatClampNeg (by omega)
  rw [xcl1 h0 hw, xkc_k h2]
  have h8 : xrd yd (xkc yd x4.toNatClampNeg + 1) = xrd yd (xkc yd x4.toNatClampNeg) + (yd.getD x4.toNatClampNeg 0).toInt.toNat := by
    show xrd yd (xkc yd x4.toNatClampNeg) + (yd.getD (xK yd (xkc yd x4.toNatClampNeg)) 0).toInt.toNat = _
    rw [xK_at (by omega) h2]
  rw [h8]
  exact xnI (by omega)
theorem xw_st0 {f : Nat → Int32} (hB : ∀ q, q < xkc yd x4.toNatClampNeg → Bs.getD q 0 = f q) (h2 : (yd.getD x4.toNatClampNeg 0).toInt = 2) (h0 : 0 ≤ x4.toInt) (hw : w.toInt = x4.toInt + 1) : ∀ q, q < xkc yd w.toNatClampNeg → Bs.getD q 0 = f q := by
  rw [xcl1 h0 hw, xkc_u h2]
  exact hB
theorem xw_st1 (hB : ∀ q, q < xkc yd x4.toNatClampNeg → Bs.getD q 0 = nI (xbb ys yf yd q)) (hBs : Bs.length = 16) (hn : xkc yd 24 ≤ 16) (hE : x2 = nI (xkc yd x4.toNatClampNeg)) (h2 : ¬ (yd.getD x4.toNatClampNeg 0).toInt = 2) (h0 : 0 ≤ x4.toInt) (h1 : x4.toInt < 24) (hw : w.toInt = x4.toInt + 1) (er : nI (xrn ys yf (xK yd) x4.toNatClampNeg (xkc yd x4.toNatClampNeg)) = r) (s : Bs.set x2.toNatClampNeg r = Bs') : ∀ q, q < xkc yd w.toNatClampNeg → Bs'.getD q 0 = nI (xbb ys yf yd q) := by
  have q0 := xj_tn h0
  have h3 := xkc_lt (yd := yd) (a := x4.toNatClampNeg) (by omega) h2
  have h4 : x2.toNatClampNeg = xkc yd x4.toNatClampNeg := xcl (xnt hE (by omega))
  rw [xcl1 h0 hw, xkc_k h2]
  intro q hq
  rw [← s, xj_gs, h4]
  by_cases hc : xkc yd x4.toNatClampNeg = q
  · rw [if_pos ⟨hc, by omega⟩, ← er]
    unfold xbb
    rw [← hc, xK_at (by omega) h2]
  · rw [if_neg (fun z => hc z.1)]
    exact hB q (by omega)
theorem xf_st1 (hk : ∀ q, q < xkc yd x1.toNatClampNeg → yk.getD q 0 = nI (xK yd q)) (hyk : yk.length = 24) (hu : u = nI (xkc yd x1.toNatClampNeg)) (h2 : ¬ (yd.getD x1.toNatClampNeg 0).toInt = 2) (h0 : 0 ≤ x1.toInt) (h1 : x1.toInt < 24) (hw : w.toInt = x1.toInt + 1) (s : yk.set u.toNatClampNeg x1 = yk') : ∀ q, q < xkc yd w.toNatClampNeg → yk'.getD q 0 = nI (xK yd q) := by
  have q0 := xj_tn h0
  have h3 := xkc_le (yd := yd) x1.toNatClampNeg
  have h4 : u.toNatClampNeg = xkc yd x1.toNatClampNeg := xcl (xnt hu (by omega))
  rw [xcl1 h0 hw, xkc_k h2]
  intro q hq
  rw [← s, xj_gs, h4]
  by_cases hc : xkc yd x1.toNatClampNeg = q
  · rw [if_pos ⟨hc, by omega⟩, ← hc, xK_at (by omega) h2]
    exact xnI (by omega)
  · rw [if_neg (fun z => hc z.1)]
    exact hk q (by omega)
theorem xon_st {tot f : Nat} (hE : nI tot = x1 + nI (xon f x2.toInt.toNat)) (hf : x2.toInt.toNat < 2 ^ f) (h0 : 0 < x2.toInt) (dr : r.toInt = x2.toInt % 2) (dw : w.toInt = x2.toInt / 2) (hv : x1 + r = v) : ∃ f0, f0 < f ∧ w.toInt.toNat < 2 ^ f0 ∧ nI tot = v + nI (xon f0 w.toInt.toNat) := by
  cases f with
  | zero => rw [Nat.pow_zero] at hf; omega
  | succ g =>
    have hp : 2 ^ (g + 1) = 2 ^ g + 2 ^ g := by rw [Nat.pow_succ]; omega
    have e1 : w.toInt.toNat = x2.toInt.toNat / 2 := by omega
    have e2 : r = nI (x2.toInt.toNat % 2) := xnI (by omega)
    refine ⟨g, Nat.lt_succ_self g, by omega, ?_⟩
    rw [hE, ← hv, e2, e1]
    show x1 + nI (x2.toInt.toNat % 2 + xon g (x2.toInt.toNat / 2)) = _
    rw [← nI_add, Int32.add_assoc]
theorem xon_ex {tot f : Nat} (hE : nI tot = x1 + nI (xon f x2.toInt.toNat)) (h : x2.toInt ≤ 0) (h0 : 0 ≤ x2.toInt) : nI tot = x1 := by
  rw [hE, show x2.toInt.toNat = 0 by omega, xon_zero, nI_0, Int32.add_zero]
theorem xc_b0 {f : Nat → Int32} (hB : ∀ q, q < x3.toNatClampNeg → Bs.getD q 0 = f q) (s : Bs.set x3.toNatClampNeg v = Bs') : ∀ q, q < x3.toNatClampNeg → Bs'.getD q 0 = f q := by
  intro q hq
  rw [← s, xj_gs, if_neg (fun z => by omega)]
  exact hB q hq
theorem xc_c0 {K : Nat → Nat} {a : Nat} (hBs : Bs.length = 24) (h1 : x3.toInt < 24) (h0 : 0 ≤ x3.toInt) (s : Bs.set x3.toNatClampNeg 0 = Bs') : Bs'.getD x3.toNatClampNeg 0 = nI (xrn ys yf K a (Int32.toNatClampNeg 0)) := by
  have q := xj_tn h0
  rw [← s, xj_gs, if_pos ⟨rfl, by omega⟩] <;> rfl
theorem xc_st {a : Int32} (hE : x2 = nI (xrd yd x3.toNatClampNeg)) (hv : v.toInt = x2.toInt + (yd.getD a.toNatClampNeg 0).toInt) (kc : a.toNatClampNeg = xK yd x3.toNatClampNeg) (hb : xrd yd x3.toNatClampNeg < 1000 ∧ 0 ≤ (yd.getD a.toNatClampNeg 0).toInt) : v = nI (xrd yd (x3.toNatClampNeg + 1)) := by
  have h1 := xnt hE (by omega)
  have h2 : xrd yd (x3.toNatClampNeg + 1) = xrd yd x3.toNatClampNeg + (yd.getD a.toNatClampNeg 0).toInt.toNat := by
    show xrd yd x3.toNatClampNeg + (yd.getD (xK yd x3.toNatClampNeg) 0).toInt.toNat = _
    rw [kc]
  rw [h2]
  exact xnI (by omega)
theorem xc_ed (hE : x2 = nI (xrd yd (x3.toNatClampNeg + 1))) (h0 : 0 ≤ x3.toInt) (hw : w.toInt = x3.toInt + 1) : x2 = nI (xrd yd w.toNatClampNeg) := by
  rw [xcl1 h0 hw]
  exact hE
theorem xc_eb (hB : ∀ q, q < x3.toNatClampNeg → Bs.getD q 0 = nI (xbb ys yf yd q)) (hC : Bs.getD x3.toNatClampNeg 0 = nI (xrn ys yf (xK yd) (xK yd x3.toNatClampNeg) x4.toNatClampNeg)) (h0 : 0 ≤ x3.toInt) (h34 : x4.toInt = x3.toInt) (hw : w.toInt = x3.toInt + 1) : ∀ q, q < w.toNatClampNeg → Bs.getD q 0 = nI (xbb ys yf yd q) := by
  have e : x4 = x3 := xc_of h34
  subst e
  rw [xcl1 h0 hw]
  intro q hq
  by_cases hc : q = x4.toNatClampNeg
  · subst hc
    exact hC
  · exact hB q (by omega)
theorem xc_cy (hC : Bs.getD x3.toNatClampNeg 0 = nI (xrn ys yf (xK yd) (xK yd x3.toNatClampNeg) x4.toNatClampNeg)) (hBs : Bs.length = 24) (h3 : x3.toInt < 24) (h0 : 0 ≤ x3.toInt) (h40 : 0 ≤ x4.toInt) (h4 : x4.toInt ≤ 15) (hw : w.toInt = x4.toInt + 1) (hb : xbs ys yf (xK yd x3.toNatClampNeg) (xK yd x4.toNatClampNeg)) (eb : (1 : Int32) <<< (x4 &&& 31) = vb) (bev : Bs.getD x3.toNatClampNeg 0 = bv) (ev : bv ||| vb = v) (s : Bs.set x3.toNatClampNeg v = Bs') : Bs'.getD x3.toNatClampNeg 0 = nI (xrn ys yf (xK yd) (xK yd x3.toNatClampNeg) w.toNatClampNeg) := by
  have q := xj_tn h0
  have q4 := xj_tn h40
  rw [← s, xj_gs, if_pos ⟨rfl, by omega⟩, xcl1 h40 hw, xrn_y hb]
  exact xn_orb (bev.symm.trans hC) (xrn_lt _) q4.symm (by omega) eb ev
theorem xc_cn (hC : Bs.getD x3.toNatClampNeg 0 = nI (xrn ys yf (xK yd) (xK yd x3.toNatClampNeg) x4.toNatClampNeg)) (hBs : Bs.length = 24) (h3 : x3.toInt < 24) (h0 : 0 ≤ x3.toInt) (h40 : 0 ≤ x4.toInt) (h4 : x4.toInt ≤ 15) (hw : w.toInt = x4.toInt + 1) (hb : ¬ xbs ys yf (xK yd x3.toNatClampNeg) (xK yd x4.toNatClampNeg)) (bev : Bs.getD x3.toNatClampNeg 0 = bv) (ev : bv ||| 0 = v) (s : Bs.set x3.toNatClampNeg v = Bs') : Bs'.getD x3.toNatClampNeg 0 = nI (xrn ys yf (xK yd) (xK yd x3.toNatClampNeg) w.toNatClampNeg) := by
  have q := xj_tn h0
  rw [← s, xj_gs, if_pos ⟨rfl, by omega⟩, xcl1 h40 hw, xrn_n hb, ← ev, Int32.or_zero, ← bev]
  exact hC
/-! counting sets -/
theorem xn_sm : ∀ n : Fin 17, ((nI n.val &&& 31).toBitVec.smod 32).toNat = n.val := by decide +kernel
theorem xn_bit {n i : Nat} {v1 v2 x6 x8 : Int32} (e6 : x6.toInt = (n : Int)) (e8 : x8.toInt = (i : Int)) (hi : i ≤ 16) (ev1 : x6 >>> (x8 &&& 31) = v1) (ev2 : v1 &&& 1 = v2) : v2.toInt = ((n / 2 ^ i % 2 : Nat) : Int) := by
  have hr := xc_rng x6
  have h1 : v1 = nI (n / 2 ^ i) := by
    rw [← ev1, xnI e6, xnI e8]
    exact pk_shrN (by omega) _ i (xn_sm ⟨i, by omega⟩)
  have h2 : n / 2 ^ i ≤ n := Nat.div_le_self _ _
  have h3 : v2 = nI (n / 2 ^ i % 2 ^ 1) := by
    rw [← ev2, h1]
    exact pk_andN (by omega) 1 rfl
  exact xnt h3 (by omega)
theorem xhj_le {b : Nat → Nat} {T : Nat} : ∀ r p, xhj b r p T ≤ 16 * r
  | 0, _ => Nat.le_refl _
  | r + 1, p => by
    have ih := xhj_le (b := b) (T := T) r (p + 1)
    have h1 := xon_le 16 (b p &&& (T % 2 ^ p))
    show (if T / 2 ^ p % 2 = 1 then xon 16 (b p &&& (T % 2 ^ p)) else 0) + xhj b r (p + 1) T ≤ 16 * (r + 1)
    split <;> omega
theorem xhj_1 {b : Nat → Nat} {T n i s tot : Nat} (hb : b i < 2 ^ i) (hi : i < n) (h : T / 2 ^ i % 2 = 1) (e : s + xhj b (n - i) i T = tot) : s + xon 16 (b i &&& T) + xhj b (n - (i + 1)) (i + 1) T = tot := by
  rw [show n - i = (n - (i + 1)) + 1 by omega] at e
  rw [← e]
  show _ = s + ((if T / 2 ^ i % 2 = 1 then xon 16 (b i &&& (T % 2 ^ i)) else 0) + xhj b (n - (i + 1)) (i + 1) T)
  rw [if_pos h, xland_mod hb]
  omega
theorem xhj_0 {b : Nat → Nat} {T n i s tot : Nat} (hi : i < n) (h : ¬ T / 2 ^ i % 2 = 1) (e : s + xhj b (n - i) i T = tot) : s + xhj b (n - (i + 1)) (i + 1) T = tot := by
  rw [show n - i = (n - (i + 1)) + 1 by omega] at e
  rw [← e]
  show _ = s + ((if T / 2 ^ i % 2 = 1 then xon 16 (b i &&& (T % 2 ^ i)) else 0) + xhj b (n - (i + 1)) (i + 1) T)
  rw [if_neg h]
  omega
theorem xnI_s0 {n : Nat} (e : x1 = nI n) (ev : x1 + 0 = v) : v = nI n := by rw [← ev, e, Int32.add_zero]
theorem xnI_s1 {n : Nat} (e : x1 = nI n) (ev : x1 + 1 = v) : v = nI (n + 1) := by rw [← ev, e, nI_1]
end ST2
theorem xjr_rng {P : Nat → Nat → Prop} {a : Nat} : ∀ b, b ≤ 24 → 0 ≤ (xjr P a b).toInt ∧ (xjr P a b).toInt ≤ b
  | 0, _ => ⟨(by decide : 0 ≤ (0 : Int32).toInt), (by decide : (0 : Int32).toInt ≤ ((0 : Nat) : Int))⟩
  | b + 1, h => by
    have ih := xjr_rng (P := P) (a := a) b (by omega)
    by_cases q : P a b
    · have e : xjr P a (b + 1) = xjr P a b + 1 := by
        show xjr P a b + @ite _ (P a b) (Classical.propDecidable _) 1 0 = _
        rw [if_pos q]
      rw [e, xz_add (X := (xjr P a b).toInt) (Y := 1) rfl (by decide) (by omega) (by omega)]
      omega
    · have e : xjr P a (b + 1) = xjr P a b := by
        show xjr P a b + @ite _ (P a b) (Classical.propDecidable _) 1 0 = _
        rw [if_neg q, Int32.add_zero]
      rw [e]
      omega
theorem xjt_rng {P : Nat → Nat → Prop} : ∀ a, a ≤ 24 → 0 ≤ (xjt P a).toInt ∧ (xjt P a).toInt ≤ 24 * a
  | 0, _ => ⟨(by decide : 0 ≤ (0 : Int32).toInt), (by decide : (0 : Int32).toInt ≤ 24 * ((0 : Nat) : Int))⟩
  | a + 1, h => by
    have ih := xjt_rng (P := P) a (by omega)
    have h2 := xjr_rng (P := P) (a := a) a (by omega)
    have e : (xjt P (a + 1)).toInt = (xjt P a).toInt + (xjr P a a).toInt := xz_add (X := (xjt P a).toInt) (Y := (xjr P a a).toInt) rfl rfl (by omega) (by omega)
    omega
theorem xch_0 {ys yf yd : List Int32} {n : Nat} {L v vc : Int32} (en : n = xkc yd 24) (hn : n ≤ 16) (hc : nI (xwf (xbb ys yf yd) (xkc yd 24) 0 (xrd yd (xkc yd 24)) 0 L.toInt) = vc) (hv : v = nI (xcn (fun T => xon 16 T = xrd yd n ∧ L.toInt ≤ (xhj (xbb ys yf yd) n 0 T : Int)) (2 ^ n))) : v = vc := by
  subst en
  rw [hv, ← hc, xwf_all hn]
theorem xch_1 {ys yf yd : List Int32} {n : Nat} {L v vc : Int32} (en : n = xkc yd 24) (hn : n ≤ 16) (hL : L.toInt = 0) (hc : nI (xwf (xbb ys yf yd) (xkc yd 24) 0 (xrd yd (xkc yd 24)) 0 L.toInt) = vc) (hv : v = nI (xcn (fun T => xon 16 T = xrd yd n) (2 ^ n))) : v = vc := by
  subst en
  rw [hv, ← hc, xwf_all hn]
  congr 1
  refine xcn_congr _ (fun T _ => ⟨fun h => ⟨h, by omega⟩, fun h => h.1⟩)
