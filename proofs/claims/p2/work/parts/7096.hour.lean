/-! One HOUR, as numbers -/
def xup (f : Nat → Int) (k : Nat) (v : Int) : Nat → Int := fun j => if j = k then v else f j
theorem xup_s {f : Nat → Int} {k : Nat} {v : Int} : xup f k v k = v := if_pos rfl
theorem xup_o {f : Nat → Int} {k j : Nat} {v : Int} (h : j ≠ k) : xup f k v j = f j := if_neg h
theorem xup_id {f : Nat → Int} {k : Nat} {v : Int} (h : f k = v) : xup f k v = f := by
  funext j
  by_cases q : j = k
  · subst q; rw [xup_s, h]
  · rw [xup_o q]
/-- a row holds these numbers -/
def xrp (y : List Int32) (n : Nat) (f : Nat → Int) : Prop := y.length = n ∧ ∀ r, r < n → (y.getD r 0).toInt = f r
theorem xrp_ld {y : List Int32} {n : Nat} {f : Nat → Int} {i v : Int32} (R : xrp y n f) (h0 : 0 ≤ i.toInt) (h1 : i.toInt < n) (ev : y.getD i.toNatClampNeg 0 = v) : v.toInt = f i.toNatClampNeg := by
  have q := xj_tn h0
  rw [← ev]
  exact R.2 _ (by omega)
theorem xrp_ldc {y : List Int32} {n k : Nat} {f : Nat → Int} {i v : Int32} (R : xrp y n f) (hi : i.toNatClampNeg = k) (h1 : k < n) (ev : y.getD i.toNatClampNeg 0 = v) : v.toInt = f k := by
  rw [← ev, hi]
  exact R.2 _ h1
theorem xrp_set {y z : List Int32} {n : Nat} {f : Nat → Int} {i v : Int32} (R : xrp y n f) (s : y.set i.toNatClampNeg v = z) : xrp z n (xup f i.toNatClampNeg v.toInt) := by
  refine ⟨by rw [← s, List.length_set]; exact R.1, fun r hr => ?_⟩
  rw [← s, xj_gs]
  by_cases q : i.toNatClampNeg = r
  · subst q
    rw [if_pos ⟨rfl, by rw [R.1]; exact hr⟩, xup_s]
  · rw [if_neg (fun z => q z.1), xup_o (fun z => q z.symm)]
    exact R.2 r hr
theorem xrp_setc {y z : List Int32} {n k : Nat} {f : Nat → Int} {i v : Int32} {V : Int} (R : xrp y n f) (s : y.set i.toNatClampNeg v = z) (hi : i.toNatClampNeg = k) (hv : v.toInt = V) : xrp z n (xup f k V) := by
  have h := xrp_set R s
  rw [hi, hv] at h
  exact h
theorem xrp_cg {y : List Int32} {n : Nat} {f g : Nat → Int} (R : xrp y n f) (h : ∀ r, r < n → f r = g r) : xrp y n g := ⟨R.1, fun r hr => (R.2 r hr).trans (h r hr)⟩
theorem xrp_eq {y z : List Int32} {n : Nat} {f : Nat → Int} (R : xrp y n f) (S : xrp z n f) : y = z := by
  apply List.ext_getElem
  · rw [R.1, S.1]
  · intro i h1 h2
    have a := R.2 i (by have := R.1; omega)
    have b := S.2 i (by have := S.1; omega)
    rw [List.getD_eq_getElem?_getD, List.getElem?_eq_getElem h1] at a
    rw [List.getD_eq_getElem?_getD, List.getElem?_eq_getElem h2] at b
    exact xc_of (a.trans b.symm)
theorem xrp_of {y : List Int32} {n : Nat} (h : y.length = n) : xrp y n (fun r => (y.getD r 0).toInt) := ⟨h, fun _ _ => rfl⟩
theorem xrp_fn {y : List Int32} {n : Nat} {f g : Nat → Int} (R : xrp y n f) (e : f = g) : xrp y n g := e ▸ R
/-! Numbers by two places -/
abbrev xFn : Type := Nat → Nat → Int
def xu2 (f : xFn) (a b : Nat) (v : Int) : xFn := fun i j => if i = a ∧ j = b then v else f i j
theorem xu2_s {f : xFn} {a b i j : Nat} {v : Int} (h : i = a ∧ j = b) : xu2 f a b v i j = v := if_pos h
theorem xu2_o {f : xFn} {a b i j : Nat} {v : Int} (h : ¬ (i = a ∧ j = b)) : xu2 f a b v i j = f i j := if_neg h
theorem xu2_row {f : xFn} {a b : Nat} {v : Int} : xu2 f a b v a = xup (f a) b v := by
  funext j
  by_cases q : j = b
  · rw [xu2_s ⟨rfl, q⟩, q, xup_s]
  · rw [xu2_o (fun z => q z.2), xup_o q]
theorem xu2_ro {f : xFn} {a b i : Nat} {v : Int} (h : i ≠ a) : xu2 f a b v i = f i := by
  funext j
  exact xu2_o (fun z => h z.1)
theorem xu2_col {f : xFn} {a b : Nat} {v : Int} : (fun i => xu2 f a b v i b) = xup (fun i => f i b) a v := by
  funext i
  by_cases q : i = a
  · rw [xu2_s ⟨q, rfl⟩, q, xup_s]
  · rw [xu2_o (fun z => q z.1), xup_o q]
theorem xu2_co {f : xFn} {a b j : Nat} {v : Int} (h : j ≠ b) : (fun i => xu2 f a b v i j) = fun i => f i j := by
  funext i
  exact xu2_o (fun z => h z.2)
/-! TRIALS that begin, TRIALS that end; what is breathed. C: 0 kind, 1 at, 2 power, 3 from, 4 true (causes); 5 room, 6 from, 7 to, 8 setting, 9 value (trials); 10 cold; 11, 12 counts; 20 .. made -/
def xtb (C : xFn) (hr : Int) (st : xFn) (wz : Nat → Int) : Nat → xFn × (Nat → Int)
  | 0 => (st, wz)
  | i + 1 => if C 6 i = hr then (xu2 (xtb C hr st wz i).1 (C 5 i).toNat (C 8 i).toNat (C 9 i), xup (xtb C hr st wz i).2 i ((xtb C hr st wz i).1 (C 5 i).toNat (C 8 i).toNat)) else xtb C hr st wz i
def xte (C : xFn) (hr : Int) (st : xFn) (wz : Nat → Int) : Nat → xFn
  | 0 => st
  | i + 1 => if C 7 i = hr then xu2 (xte C hr st wz i) (C 5 i).toNat (C 8 i).toNat (wz i) else xte C hr st wz i
def xbh (C : xFn) (hr r : Int) : Nat → Int
  | 0 => 0
  | i + 1 => xbh C hr r i + (if C 0 i = 3 ∧ C 1 i = r ∧ C 4 i = 1 ∧ C 3 i ≤ hr then C 2 i else 0)
theorem xtb_n {C : xFn} {hr : Int} {st : xFn} {wz : Nat → Int} {i : Nat} (h : ¬ C 6 i = hr) : xtb C hr st wz (i + 1) = xtb C hr st wz i := if_neg h
theorem xtb_y {C : xFn} {hr : Int} {st : xFn} {wz : Nat → Int} {i : Nat} (h : C 6 i = hr) : xtb C hr st wz (i + 1) = (xu2 (xtb C hr st wz i).1 (C 5 i).toNat (C 8 i).toNat (C 9 i), xup (xtb C hr st wz i).2 i ((xtb C hr st wz i).1 (C 5 i).toNat (C 8 i).toNat)) := if_pos h
theorem xte_n {C : xFn} {hr : Int} {st : xFn} {wz : Nat → Int} {i : Nat} (h : ¬ C 7 i = hr) : xte C hr st wz (i + 1) = xte C hr st wz i := if_neg h
theorem xte_y {C : xFn} {hr : Int} {st : xFn} {wz : Nat → Int} {i : Nat} (h : C 7 i = hr) : xte C hr st wz (i + 1) = xu2 (xte C hr st wz i) (C 5 i).toNat (C 8 i).toNat (wz i) := if_pos h
theorem xbh_y {C : xFn} {hr r : Int} {i : Nat} (h : C 0 i = 3 ∧ C 1 i = r ∧ C 4 i = 1 ∧ C 3 i ≤ hr) : xbh C hr r (i + 1) = xbh C hr r i + C 2 i := by
  show xbh C hr r i + (if C 0 i = 3 ∧ C 1 i = r ∧ C 4 i = 1 ∧ C 3 i ≤ hr then C 2 i else 0) = _
  rw [if_pos h]
theorem xbh_n {C : xFn} {hr r : Int} {i : Nat} (h : ¬ (C 0 i = 3 ∧ C 1 i = r ∧ C 4 i = 1 ∧ C 3 i ≤ hr)) : xbh C hr r (i + 1) = xbh C hr r i := by
  show xbh C hr r i + (if C 0 i = 3 ∧ C 1 i = r ∧ C 4 i = 1 ∧ C 3 i ≤ hr then C 2 i else 0) = _
  rw [if_neg h, Int.add_zero]
theorem xbh_b {C : xFn} {hr r : Int} (hp : ∀ k, k < 10 → 0 ≤ C 2 k ∧ C 2 k ≤ 99) : ∀ i : Nat, i ≤ 10 → 0 ≤ xbh C hr r i ∧ xbh C hr r i ≤ 99 * (i : Int)
  | 0, _ => ⟨Int.le_refl _, Int.le_refl _⟩
  | i + 1, h => by
    have ih := xbh_b (C := C) (hr := hr) (r := r) hp i (by omega)
    have hq := hp i (by omega)
    by_cases q : C 0 i = 3 ∧ C 1 i = r ∧ C 4 i = 1 ∧ C 3 i ≤ hr
    · rw [xbh_y q]; omega
    · rw [xbh_n q]; omega
/-! What air holds; a ROOM's WET after an HOUR -/
def xho (t : Int) : Int := if 0 ≤ t then 5 + t / 2 + t * t / 40 else if 5 - (-t) / 5 < 1 then 1 else 5 - (-t) / 5
def xcap (v : Int) : Int := if 99999 < v then 99999 else v
def xv2 (v a hc c : Int) : Int := v - ((v - a * hc / 2) * c).tdiv 100
def xro (w s a t c hc : Int) : Int := if a * xho t < xv2 (xcap (w + s)) a hc c then a * xho t else xv2 (xcap (w + s)) a hc c
theorem xho_b {t : Int} (h0 : -20 ≤ t) (h1 : t ≤ 99) : 1 ≤ xho t ∧ xho t ≤ 300 := by
  unfold xho
  by_cases q : 0 ≤ t
  · rw [if_pos q]
    have h2 : t * t ≤ 99 * 99 := Int.mul_le_mul h1 h1 q (by decide)
    have h3 : 0 ≤ t * t := Int.mul_nonneg q q
    omega
  · rw [if_neg q]
    split <;> omega
theorem xcap_b {v : Int} (h : 0 ≤ v) : 0 ≤ xcap v ∧ xcap v ≤ 99999 := by
  unfold xcap
  split <;> omega
theorem xcap_2 {v s : Int} (hs : 0 ≤ s) : xcap (xcap v + s) = xcap (v + s) := by
  by_cases q : 99999 < v
  · have e1 : xcap v = 99999 := if_pos q
    have e2 : xcap (v + s) = 99999 := if_pos (by omega)
    rw [e1, e2]
    by_cases z : 99999 < 99999 + s
    · exact if_pos z
    · have e3 : xcap (99999 + s) = 99999 + s := if_neg z
      rw [e3]
      omega
  · have e1 : xcap v = v := if_neg q
    rw [e1]
theorem xprod {a b A B : Int} (h0 : 0 ≤ a) (h1 : a ≤ A) (g0 : 0 ≤ b) (g1 : b ≤ B) : 0 ≤ a * b ∧ a * b ≤ A * B :=
  ⟨Int.mul_nonneg h0 g0, Int.mul_le_mul h1 g1 g0 (by omega)⟩
theorem xv2_b {v a hc c : Int} (v0 : 0 ≤ v) (v1 : v ≤ 99999) (a0 : 0 ≤ a) (a1 : a ≤ 99) (h0 : 0 ≤ hc) (h1 : hc ≤ 300) (c0 : 0 ≤ c) (c1 : c ≤ 100) : 0 ≤ xv2 v a hc c ∧ xv2 v a hc c ≤ 99999 ∧ -9999900 ≤ (v - a * hc / 2) * c ∧ (v - a * hc / 2) * c ≤ 9999900 := by
  obtain ⟨p0, p1⟩ := xprod a0 a1 h0 h1
  unfold xv2
  generalize ho : a * hc / 2 = o
  have o0 : 0 ≤ o := by omega
  have o1 : o ≤ 99999 := by omega
  by_cases q : o ≤ v
  · have e0 : 0 ≤ (v - o) * c := Int.mul_nonneg (by omega) c0
    have e1 : (v - o) * c ≤ (v - o) * 100 := Int.mul_le_mul_of_nonneg_left c1 (by omega)
    rw [Int.tdiv_eq_ediv_of_nonneg e0]
    omega
  · have e0 : 0 ≤ (o - v) * c := Int.mul_nonneg (by omega) c0
    have e1 : (o - v) * c ≤ (o - v) * 100 := Int.mul_le_mul_of_nonneg_left c1 (by omega)
    have e2 : (v - o) * c = -((o - v) * c) := by rw [← Int.neg_mul]; congr 1; omega
    rw [e2, Int.neg_tdiv, Int.tdiv_eq_ediv_of_nonneg e0]
    omega
/-- the numbers of Java that come there -/
theorem xair {wt ai hc c hw v1 v2 v3 v4 v5 v6 v7 : Int32} {W a H C G : Int} (ew : wt.toInt = W) (ea : ai.toInt = a) (eh : hc.toInt = H) (ec : c.toInt = C) (eg : hw.toInt = G) (w0 : 0 ≤ W ∧ W ≤ 99999) (a0 : 0 ≤ a ∧ a ≤ 99) (h0 : 0 ≤ H ∧ H ≤ 300) (c0 : 0 ≤ C ∧ C ≤ 100) (g0 : 0 ≤ G ∧ G ≤ 300)
    (e1 : ai * hc = v1) (e2 : v1 / 2 = v2) (e3 : wt - v2 = v3) (e4 : v3 * c = v4) (e5 : v4 / 100 = v5) (e6 : wt - v5 = v6) (e7 : ai * hw = v7) : v6.toInt = xv2 W a H C ∧ (0 ≤ v6.toInt ∧ v6.toInt ≤ 99999) ∧ v7.toInt = a * G ∧ (0 ≤ v7.toInt ∧ v7.toInt ≤ 29700) := by
  obtain ⟨p0, p1⟩ := xprod a0.1 a0.2 h0.1 h0.2
  obtain ⟨q0, q1⟩ := xprod a0.1 a0.2 g0.1 g0.2
  obtain ⟨b0, b1, b2, b3⟩ := xv2_b w0.1 w0.2 a0.1 a0.2 h0.1 h0.2 c0.1 c0.2
  have z1 : v1.toInt = a * H := by rw [← e1]; exact xz_mul ea eh (by omega) (by omega)
  have z2 : v2.toInt = a * H / 2 := by rw [← e2]; exact xz_dive z1 (Y := 2) (by decide) p0 (by decide)
  have z3 : v3.toInt = W - a * H / 2 := by rw [← e3]; exact xz_sub ew z2 (by omega) (by omega)
  have z4 : v4.toInt = (W - a * H / 2) * C := by rw [← e4]; exact xz_mul z3 ec (by omega) (by omega)
  have z5 : v5.toInt = ((W - a * H / 2) * C).tdiv 100 := by rw [← e5]; exact xz_divt z4 (Y := 100) (by decide) (by decide)
  have hd : xv2 W a H C = W - ((W - a * H / 2) * C).tdiv 100 := rfl
  have z6 : v6.toInt = xv2 W a H C := by rw [← e6, hd]; exact xz_sub ew z5 (by omega) (by omega)
  have z7 : v7.toInt = a * G := by rw [← e7]; exact xz_mul ea eg (by omega) (by omega)
  refine ⟨z6, ?_, z7, ?_⟩
  · omega
  · omega
/-! the HOUR -/
def xwn (C : xFn) (hr : Int) (st : xFn) (w : Nat → Int) (r : Nat) : Int := xro (w r) (xbh C hr (r : Int) (C 11 0).toNat + C (20 + r) (hr % 24).toNat) (st r 0) (st r 1) (st r 2 + (if st r 4 = 1 then st r 3 else 0)) (xho (C 10 hr.toNat))
abbrev xSt : Type := (Nat → Int) × xFn × (Nat → Int)
def xstep (C : xFn) (hr : Int) (s : xSt) : xSt := (xwn C hr (xtb C hr s.2.1 s.2.2 (C 12 0).toNat).1 s.1, xte C (hr + 1) (xtb C hr s.2.1 s.2.2 (C 12 0).toNat).1 (xtb C hr s.2.1 s.2.2 (C 12 0).toNat).2 (C 12 0).toNat, (xtb C hr s.2.1 s.2.2 (C 12 0).toNat).2)
def xrun (C : xFn) (hr : Int) (s : xSt) : Nat → xSt
  | 0 => s
  | n + 1 => xstep C (hr + n) (xrun C hr s n)
def xcr (C : xFn) : Prop := (0 ≤ C 11 0 ∧ C 11 0 ≤ 10) ∧ (0 ≤ C 12 0 ∧ C 12 0 ≤ 20) ∧ (∀ i, i < 10 → 0 ≤ C 2 i ∧ C 2 i ≤ 99) ∧ (∀ i : Nat, (i : Int) < C 12 0 → (0 ≤ C 5 i ∧ C 5 i ≤ 5) ∧ (C 8 i = 4 ∨ C 8 i = 2) ∧ (0 ≤ C 9 i ∧ C 9 i ≤ 50)) ∧ (∀ j, j < 600 → -20 ≤ C 10 j ∧ C 10 j ≤ 99) ∧ (∀ r, r < 6 → ∀ j, j < 24 → 0 ≤ C (20 + r) j ∧ C (20 + r) j ≤ 999)
def xsq (st : xFn) : Prop := ∀ r, r < 6 → (0 ≤ st r 0 ∧ st r 0 ≤ 99) ∧ (0 ≤ st r 1 ∧ st r 1 ≤ 99) ∧ (0 ≤ st r 2 ∧ st r 2 ≤ 50) ∧ (0 ≤ st r 3 ∧ st r 3 ≤ 50) ∧ (0 ≤ st r 4 ∧ st r 4 ≤ 50)
def xwr (n : Nat) (hi : Int) (w : Nat → Int) : Prop := ∀ r, r < n → 0 ≤ w r ∧ w r ≤ hi
theorem xsq_up {st : xFn} {a q : Nat} {v : Int} (h : xsq st) (hq : q = 2 ∨ q = 4) (v0 : 0 ≤ v) (v1 : v ≤ 50) : xsq (xu2 st a q v) := by
  intro r hr
  obtain ⟨h0, h1, h2, h3, h4⟩ := h r hr
  have e0 : xu2 st a q v r 0 = st r 0 := xu2_o (fun z => by have := z.2; omega)
  have e1 : xu2 st a q v r 1 = st r 1 := xu2_o (fun z => by have := z.2; omega)
  have e3 : xu2 st a q v r 3 = st r 3 := xu2_o (fun z => by have := z.2; omega)
  have e2 : xu2 st a q v r 2 = v ∨ xu2 st a q v r 2 = st r 2 := by
    by_cases z : r = a ∧ 2 = q
    · exact Or.inl (xu2_s z)
    · exact Or.inr (xu2_o z)
  have e4 : xu2 st a q v r 4 = v ∨ xu2 st a q v r 4 = st r 4 := by
    by_cases z : r = a ∧ 4 = q
    · exact Or.inl (xu2_s z)
    · exact Or.inr (xu2_o z)
  rw [e0, e1, e3]
  refine ⟨h0, h1, ?_, h3, ?_⟩
  · rcases e2 with e | e
    · rw [e]; exact ⟨v0, v1⟩
    · rw [e]; exact h2
  · rcases e4 with e | e
    · rw [e]; exact ⟨v0, v1⟩
    · rw [e]; exact h4
theorem xsq_at {st : xFn} {r q : Nat} (h : xsq st) (hr : r < 6) (hq : q = 2 ∨ q = 4) : 0 ≤ st r q ∧ st r q ≤ 50 := by
  obtain ⟨h0, h1, h2, h3, h4⟩ := h r hr
  rcases hq with e | e
  · rw [e]; exact h2
  · rw [e]; exact h4
theorem xtb_r {C : xFn} {hr : Int} {st : xFn} {wz : Nat → Int} (hC : xcr C) (h : xsq st) (hw : xwr 20 50 wz) : ∀ i : Nat, (i : Int) ≤ C 12 0 → xsq (xtb C hr st wz i).1 ∧ xwr 20 50 (xtb C hr st wz i).2
  | 0, _ => ⟨h, hw⟩
  | i + 1, hi => by
    obtain ⟨a, b⟩ := xtb_r (hr := hr) hC h hw i (by omega)
    obtain ⟨r5, r8, r9⟩ := hC.2.2.2.1 i (by omega)
    by_cases q : C 6 i = hr
    · rw [xtb_y q]
      refine ⟨xsq_up a (by omega) r9.1 r9.2, fun k hk => ?_⟩
      dsimp only
      by_cases e : k = i
      · rw [e, xup_s]
        exact xsq_at a (by omega) (by omega)
      · rw [xup_o e]
        exact b k hk
    · rw [xtb_n q]
      exact ⟨a, b⟩
theorem xte_r {C : xFn} {hr : Int} {st : xFn} {wz : Nat → Int} (hC : xcr C) (h : xsq st) (hw : xwr 20 50 wz) : ∀ i : Nat, (i : Int) ≤ C 12 0 → xsq (xte C hr st wz i)
  | 0, _ => h
  | i + 1, hi => by
    have a := xte_r (hr := hr) hC h hw i (by omega)
    obtain ⟨r5, r8, r9⟩ := hC.2.2.2.1 i (by omega)
    have h12 := hC.2.1
    by_cases q : C 7 i = hr
    · rw [xte_y q]
      exact xsq_up a (by omega) (hw i (by omega)).1 (hw i (by omega)).2
    · rw [xte_n q]
      exact a
theorem xro_b {w s a t c hc : Int} (w0 : 0 ≤ w + s) (a0 : 0 ≤ a ∧ a ≤ 99) (t0 : -20 ≤ t ∧ t ≤ 99) (c0 : 0 ≤ c ∧ c ≤ 100) (h0 : 0 ≤ hc ∧ hc ≤ 300) : 0 ≤ xro w s a t c hc ∧ xro w s a t c hc ≤ 99999 := by
  obtain ⟨p0, p1⟩ := xcap_b w0
  obtain ⟨b0, b1, b2, b3⟩ := xv2_b p0 p1 a0.1 a0.2 h0.1 h0.2 c0.1 c0.2
  obtain ⟨q0, q1⟩ := xho_b t0.1 t0.2
  obtain ⟨g0, g1⟩ := xprod a0.1 a0.2 (b := xho t) (B := 300) (by omega) q1
  unfold xro
  split
  · omega
  · exact ⟨b0, b1⟩
theorem xc_of_fan {st : xFn} {r : Nat} (h : xsq st) (hr : r < 6) : 0 ≤ st r 2 + (if st r 4 = 1 then st r 3 else 0) ∧ st r 2 + (if st r 4 = 1 then st r 3 else 0) ≤ 100 := by
  obtain ⟨h0, h1, h2, h3, h4⟩ := h r hr
  split <;> omega
theorem xwn_r {C : xFn} {hr : Int} {st : xFn} {w : Nat → Int} (hC : xcr C) (h : xsq st) (hw : xwr 6 99999 w) (h0 : 0 ≤ hr) (h1 : hr ≤ 599) : xwr 6 99999 (xwn C hr st w) := by
  intro r hr6
  obtain ⟨c11, c12, c2, c5, c10, c20⟩ := hC
  have b1 := xbh_b (C := C) (hr := hr) (r := (r : Int)) c2 (C 11 0).toNat (by omega)
  have b2 := c20 r hr6 (hr % 24).toNat (by omega)
  have b3 := hw r hr6
  obtain ⟨s0, s1, s2, s3, s4⟩ := h r hr6
  have b4 := c10 hr.toNat (by omega)
  have b5 := xho_b b4.1 b4.2
  exact xro_b (by omega) s0 ⟨by omega, by omega⟩ (xc_of_fan h hr6) ⟨by omega, by omega⟩
def xsr (s : xSt) : Prop := xwr 6 99999 s.1 ∧ xsq s.2.1 ∧ xwr 20 50 s.2.2
theorem xstep_r {C : xFn} {hr : Int} {s : xSt} (hC : xcr C) (h : xsr s) (h0 : 0 ≤ hr) (h1 : hr ≤ 599) : xsr (xstep C hr s) := by
  have h12 := hC.2.1
  obtain ⟨a, b⟩ := xtb_r (hr := hr) hC h.2.1 h.2.2 (C 12 0).toNat (by omega)
  exact ⟨xwn_r hC a h.1 h0 h1, xte_r hC a b (C 12 0).toNat (by omega), b⟩
theorem xrun_r {C : xFn} {hr : Int} {s : xSt} (hC : xcr C) (h : xsr s) (h0 : 0 ≤ hr) : ∀ n : Nat, hr + n ≤ 600 → xsr (xrun C hr s n)
  | 0, _ => h
  | n + 1, hn => xstep_r hC (xrun_r hC h h0 n (by omega)) (by omega) (by omega)
/-- WET while causes are gone through -/
def xwb (C : xFn) (hr : Int) (w : Nat → Int) (i : Nat) : Nat → Int := fun r => xcap (w r + xbh C hr (r : Int) i)
theorem xcap_id {v : Int} (h : v ≤ 99999) : xcap v = v := if_neg (by omega)
theorem xwb_0 {C : xFn} {hr : Int} {w : Nat → Int} (hw : xwr 6 99999 w) : ∀ r, r < 6 → w r = xwb C hr w 0 r := by
  intro r hr6
  have h := hw r hr6
  show w r = xcap (w r + 0)
  rw [Int.add_zero, xcap_id h.2]
theorem xwb_n {C : xFn} {hr : Int} {w : Nat → Int} {i : Nat} (h : ∀ r : Nat, r < 6 → ¬ (C 0 i = 3 ∧ C 1 i = (r : Int) ∧ C 4 i = 1 ∧ C 3 i ≤ hr)) : ∀ r, r < 6 → xwb C hr w i r = xwb C hr w (i + 1) r := by
  intro r hr6
  show xcap (w r + xbh C hr (r : Int) i) = xcap (w r + xbh C hr (r : Int) (i + 1))
  rw [xbh_n (h r hr6)]
theorem xwb_y {C : xFn} {hr : Int} {w : Nat → Int} {i a : Nat} {v p : Int} (h0 : C 0 i = 3) (h1 : C 1 i = (a : Int)) (h4 : C 4 i = 1) (h3 : C 3 i ≤ hr) (hp : C 2 i = p) (p0 : 0 ≤ p) (hv : v = xcap (xwb C hr w i a + p)) : ∀ r, r < 6 → xup (xwb C hr w i) a v r = xwb C hr w (i + 1) r := by
  intro r hr6
  by_cases e : r = a
  · rw [e, xup_s, hv]
    show xcap (xcap (w a + xbh C hr (a : Int) i) + p) = xcap (w a + xbh C hr (a : Int) (i + 1))
    rw [xbh_y ⟨h0, h1, h4, h3⟩, hp, xcap_2 p0, Int.add_assoc]
  · rw [xup_o e]
    show xcap (w r + xbh C hr (r : Int) i) = xcap (w r + xbh C hr (r : Int) (i + 1))
    rw [xbh_n (fun z => e (by have := z.2.1; omega))]
/-- ROOMS whose HOUR has passed -/
def xwm (n : Nat) (f g : Nat → Int) : Nat → Int := fun r => if r < n then f r else g r
theorem xwm_0 {f g : Nat → Int} : ∀ r, r < 6 → g r = xwm 0 f g r := fun r _ => (if_neg (Nat.not_lt_zero r)).symm
theorem xwm_at {n : Nat} {f g : Nat → Int} : xwm n f g n = g n := if_neg (Nat.lt_irrefl n)
theorem xwm_s {n : Nat} {f g : Nat → Int} {v : Int} (hv : v = f n) : ∀ r, r < 6 → xup (xwm n f g) n v r = xwm (n + 1) f g r := by
  intro r _
  by_cases e : r = n
  · rw [e, xup_s, hv]
    exact (if_pos (Nat.lt_succ_self n)).symm
  · rw [xup_o e]
    show (if r < n then f r else g r) = if r < n + 1 then f r else g r
    by_cases q : r < n
    · rw [if_pos q, if_pos (by omega)]
    · rw [if_neg q, if_neg (by omega)]
theorem xwm_e {f g : Nat → Int} : ∀ r, r < 6 → xwm 6 f g r = f r := fun r h => if_pos h
/-! Rows, fields and groups that hold these numbers -/
def xra (h : xe_H) (k n : Nat) (f : Nat → Int) : Prop := ∃ (t : Nat) (y : List Int32), xl h (k, 0) = some (.inr (t, .inl y)) ∧ xrp y n f
theorem xra_ld {h : xe_H} {k n t : Nat} {f : Nat → Int} {y : List Int32} (I : xra h k n f) (A : h[k]? = some (.inl (t, .inl y))) : xrp y n f := by
  obtain ⟨t1, y1, e1, e2⟩ := I
  rw [xl_arr A] at e1
  cases e1
  exact e2
theorem xra_mk {h : xe_H} {k n t : Nat} {f : Nat → Int} {y : List Int32} (A : h[k]? = some (.inl (t, .inl y))) (R : xrp y n f) : xra h k n f := ⟨t, y, xl_arr A, R⟩
theorem xra_fr {h h' : xe_H} {k n : Nat} {f : Nat → Int} (I : xra h k n f) (F : xl h' (k, 0) = xl h (k, 0)) : xra h' k n f := by
  obtain ⟨t1, y1, e1, e2⟩ := I
  exact ⟨t1, y1, F.trans e1, e2⟩
theorem xra_cg {h : xe_H} {k n : Nat} {f g : Nat → Int} (I : xra h k n f) (e : ∀ r, r < n → f r = g r) : xra h k n g := by
  obtain ⟨t1, y1, e1, e2⟩ := I
  exact ⟨t1, y1, e1, xrp_cg e2 e⟩
def xfi (h : xe_H) (k q : Nat) (v : Int) : Prop := ∃ u : Int32, xl h (k, q) = some (.inl (.int u)) ∧ u.toInt = v
theorem xfi_ld {h : xe_H} {k q ci : Nat} {v : Int} {fs : List Value} {u : Int32} (I : xfi h k q v) (A : h[k]? = some (.inr (ci, fs))) (hu : fs[q]? = some (.int u)) : u.toInt = v := by
  obtain ⟨w, e1, e2⟩ := I
  rw [xl_val A hu e1]
  exact e2
theorem xfi_mk {h : xe_H} {k q ci : Nat} {v : Int} {fs : List Value} {u : Int32} (A : h[k]? = some (.inr (ci, fs))) (hu : fs[q]? = some (.int u)) (e : u.toInt = v) : xfi h k q v := ⟨u, xl_of A hu, e⟩
theorem xfi_fr {h h' : xe_H} {k q : Nat} {v : Int} (I : xfi h k q v) (F : xl h' (k, q) = xl h (k, q)) : xfi h' k q v := by
  obtain ⟨w, e1, e2⟩ := I
  exact ⟨w, F.trans e1, e2⟩
def xgf (h : xe_H) (G : List Nat) (q : Nat) (f : Nat → Int) : Prop := ∀ n, n < G.length → xfi h (G.getD n 0) q (f n)
theorem xgf_at {G : List Nat} {Lo : List (Option Nat)} (hG : G.map some = Lo) {i : Int32} {p : Nat} (e : va_rf (Lo.getD i.toNatClampNeg none) = .ref p) (hn : i.toNatClampNeg < G.length) : G.getD i.toNatClampNeg 0 = p := by
  rw [← hG, List.getD_eq_getElem?_getD, List.getElem?_map, List.getElem?_eq_getElem hn] at e
  rw [List.getD_eq_getElem?_getD, List.getElem?_eq_getElem hn]
  simpa [va_rf] using e
theorem xgf_ld {h : xe_H} {G : List Nat} {Lo : List (Option Nat)} {q p ci : Nat} {f : Nat → Int} {fs : List Value} {u : Int32} (I : xgf h G q f) (hG : G.map some = Lo) {i : Int32} (e : va_rf (Lo.getD i.toNatClampNeg none) = .ref p) (h0 : 0 ≤ i.toInt) (h1 : i.toInt < G.length) (A : h[p]? = some (.inr (ci, fs))) (hu : fs[q]? = some (.int u)) : u.toInt = f i.toNatClampNeg := by
  have hn := xj_nat h0 h1
  have h2 := I _ hn
  rw [xgf_at hG e hn] at h2
  exact xfi_ld h2 A hu
theorem xgf_fr {h h' : xe_H} {G : List Nat} {q : Nat} {f : Nat → Int} {P : List (Nat × Nat)} (I : xgf h G q f) (F : ∀ l : Nat × Nat, List.elem l P = true → xl h' l = xl h l) (hP : G.all (fun c => List.elem (c, q) P) = true) : xgf h' G q f := by
  intro n hn
  exact xfi_fr (I n hn) (F _ (List.all_eq_true.mp hP _ (by simpa using xGR_mem hn)))
theorem xgf_kp {h h' : xe_H} {G : List Nat} {q : Nat} {f : Nat → Int} (I : xgf h G q f) (F : ∀ c, List.elem c G = true → h'[c]? = h[c]?) : xgf h' G q f := by
  intro n hn
  refine xfi_fr (I n hn) ?_
  unfold xl
  rw [F _ (xGR_mem hn)]
theorem xgf_set {h h' : xe_H} {G : List Nat} {Lo : List (Option Nat)} {q p ci : Nat} {f : Nat → Int} {fs : List Value} {v : Int32} (I : xgf h G q f) (hd : ∀ a, a < G.length → ∀ b, b < G.length → G.getD a 0 = G.getD b 0 → a = b) (hG : G.map some = Lo) {i : Int32} (e : va_rf (Lo.getD i.toNatClampNeg none) = .ref p) (h0 : 0 ≤ i.toInt) (h1 : i.toInt < G.length) (A : h'[p]? = some (.inr (ci, fs))) (hu : fs[q]? = some (.int v)) (F : ∀ c, List.elem c G = true → c ≠ p → h'[c]? = h[c]?) : xgf h' G q (xup f i.toNatClampNeg v.toInt) := by
  have hn := xj_nat h0 h1
  have e2 := xgf_at hG e hn
  intro n hn'
  by_cases hq : n = i.toNatClampNeg
  · subst hq
    rw [e2, xup_s]
    exact xfi_mk A hu rfl
  · rw [xup_o hq]
    have hne : G.getD n 0 ≠ p := fun hh => hq (hd _ hn' _ hn (hh.trans e2.symm))
    refine xfi_fr (I n hn') ?_
    unfold xl
    rw [F _ (xGR_mem hn') hne]
theorem xgf_of {h : xe_H} {G : List Nat} {q k2 t n : Nat} {f : Nat → Int} {y : List Int32} (I : xGR h G q k2) (A : h[k2]? = some (.inl (t, .inl y))) (R : xrp y n f) (hn : G.length ≤ n) : xgf h G q f := by
  intro m hm
  obtain ⟨u, t1, y1, e1, e2, e3⟩ := I m hm
  rw [xl_arr A] at e2
  cases e2
  exact ⟨u, e1, by rw [← e3]; exact R.2 m (by omega)⟩
theorem xgf_gr {h : xe_H} {G : List Nat} {q k2 t n : Nat} {f : Nat → Int} {y : List Int32} (I : xgf h G q f) (A : h[k2]? = some (.inl (t, .inl y))) (R : xrp y n f) (hn : G.length ≤ n) : xGR h G q k2 := by
  intro m hm
  obtain ⟨u, e1, e2⟩ := I m hm
  exact ⟨u, t, y, e1, xl_arr A, xc_of ((R.2 m (by omega)).trans e2.symm)⟩
/-! one bit of a number -/
theorem xn_s10 : ∀ n : Fin 10, ((nI n.val &&& 31).toBitVec.smod 32).toNat = n.val := by decide +kernel
theorem xsh_bit {a i v1 v2 : Int32} {k : Nat} (hi : i.toInt = (k : Int)) (hk : k < 10) (ev1 : a >>> (i &&& 31) = v1) (ev2 : v1 &&& 1 = v2) : (a.toBitVec.getLsbD k = true ∧ v2.toInt ≠ 0) ∨ (a.toBitVec.getLsbD k = false ∧ v2.toInt = 0) := by
  have e : i = nI k := xc_of (by rw [nI_toInt (by omega)]; exact hi)
  have h1 : v1.toBitVec.getLsbD 0 = a.toBitVec.getLsbD k := by
    rw [← ev1, e, Int32.toBitVec_shiftRight]
    show (a.toBitVec.sshiftRight ((nI k &&& 31).toBitVec.smod 32).toNat).getLsbD 0 = _
    rw [xn_s10 ⟨k, hk⟩, BitVec.getLsbD_sshiftRight]
    have h3 : k + 0 < 32 := by omega
    simp [h3]
    intro hh
    exact absurd hh (by omega)
  have h2 := xB_and (u := v1) (vb := 1) (v1 := v2) (k := 0) (by decide) (by decide) ev2
  rw [h1] at h2
  exact h2
/-! small ones -/
theorem xcl2 {i j : Int32} (h0 : 0 ≤ i.toInt) (h : j.toInt = i.toInt + 1) : j.toNatClampNeg = i.toNatClampNeg + 1 := by
  have q1 := xj_tn h0
  have q2 := xj_tn (i := j) (by omega)
  omega
theorem xcl3 {i : Int32} {v : Int} (h : i.toInt = v) (h0 : 0 ≤ v) : i.toNatClampNeg = v.toNat := by
  have q1 := xj_tn (i := i) (by omega)
  omega
theorem xcap_is {v x : Int} (h1 : 99999 < x → v = 99999) (h2 : x ≤ 99999 → v = x) : v = xcap x := by
  by_cases q : 99999 < x
  · rw [h1 q]; exact (if_pos q).symm
  · rw [h2 (by omega)]; exact (if_neg q).symm
theorem xra_fn {h : xe_H} {k n : Nat} {f g : Nat → Int} (I : xra h k n f) (e : f = g) : xra h k n g := e ▸ I
theorem xup_2 {f : Nat → Int} {k : Nat} {a b : Int} : xup (xup f k a) k b = xup f k b := by
  funext j
  by_cases q : j = k
  · rw [q, xup_s, xup_s]
  · rw [xup_o q, xup_o q, xup_o q]
theorem xs63 : ∀ n : Fin 6, ((63 : Int32) >>> (nI n.val &&& 31)) &&& 1 = 1 := by decide +kernel
theorem xsh63 {i v1 : Int32} (h0 : 0 ≤ i.toInt) (h1 : i.toInt ≤ 5) (e : (63 : Int32) >>> (i &&& 31) = v1) : v1 &&& 1 = 1 := by
  have q1 := xj_tn h0
  have e2 : i = nI i.toNatClampNeg := xc_of (by rw [nI_toInt (by omega)]; exact q1.symm)
  rw [← e, e2]
  exact xs63 ⟨i.toNatClampNeg, by omega⟩
theorem xro_2 {w b m a t c hc : Int} (hm : 0 ≤ m) : xro (xcap (w + b)) m a t c hc = xro w (b + m) a t c hc := by
  unfold xro
  rw [xcap_2 hm, Int.add_assoc]
theorem xro_v {w s a t c hc v6 v7 : Int} (h6 : v6 = xv2 (xcap (w + s)) a hc c) (h7 : v7 = a * xho t) : (v7 < v6 → v7 = xro w s a t c hc) ∧ (v6 ≤ v7 → v6 = xro w s a t c hc) := by
  unfold xro
  rw [← h6, ← h7]
  exact ⟨fun h => (if_pos h).symm, fun h => (if_neg (by omega)).symm⟩
theorem xl_c {h h' : xe_H} {k q : Nat} (e : h'[k]? = h[k]?) : xl h' (k, q) = xl h (k, q) := by
  unfold xl
  dsimp only
  rw [e]
theorem xwb_b {C : xFn} {hr : Int} {w : Nat → Int} (hC : xcr C) (hw : xwr 6 99999 w) (i : Nat) (hi : i ≤ 10) : xwr 6 99999 (xwb C hr w i) := by
  intro r hr6
  have h1 := hw r hr6
  have h2 := xbh_b (C := C) (hr := hr) (r := (r : Int)) hC.2.2.1 i hi
  exact xcap_b (by omega)
theorem xwm_r {n : Nat} {f g : Nat → Int} (hf : xwr 6 99999 f) (hg : xwr 6 99999 g) : xwr 6 99999 (xwm n f g) := by
  intro r hr
  unfold xwm
  split
  · exact hf r hr
  · exact hg r hr
theorem xfi_e {h : xe_H} {k q : Nat} {v w : Int} (I : xfi h k q v) (e : v = w) : xfi h k q w := e ▸ I
theorem xair1 {wt ai hc c v1 v2 v3 v4 v5 v6 : Int32} {W a H C : Int} (ew : wt.toInt = W) (ea : ai.toInt = a) (eh : hc.toInt = H) (ec : c.toInt = C) (w0 : 0 ≤ W ∧ W ≤ 99999) (a0 : 0 ≤ a ∧ a ≤ 99) (h0 : 0 ≤ H ∧ H ≤ 300) (c0 : 0 ≤ C ∧ C ≤ 100)
    (e1 : ai * hc = v1) (e2 : v1 / 2 = v2) (e3 : wt - v2 = v3) (e4 : v3 * c = v4) (e5 : v4 / 100 = v5) (e6 : wt - v5 = v6) : v6.toInt = xv2 W a H C ∧ (0 ≤ v6.toInt ∧ v6.toInt ≤ 99999) := by
  have h := xair ew ea eh ec (hw := 0) (G := 0) (by decide) w0 a0 h0 c0 ⟨by omega, by omega⟩ e1 e2 e3 e4 e5 e6 rfl
  exact ⟨h.1, h.2.1⟩
theorem xair2 {ai hw v7 : Int32} {a G : Int} (ea : ai.toInt = a) (eg : hw.toInt = G) (a0 : 0 ≤ a ∧ a ≤ 99) (g0 : 0 ≤ G ∧ G ≤ 300) (e7 : ai * hw = v7) : v7.toInt = a * G ∧ (0 ≤ v7.toInt ∧ v7.toInt ≤ 29700) := by
  obtain ⟨q0, q1⟩ := xprod a0.1 a0.2 g0.1 g0.2
  have z7 : v7.toInt = a * G := by rw [← e7]; exact xz_mul ea eg (by omega) (by omega)
  exact ⟨z7, by omega⟩
theorem xGR_same {h h' : xe_H} {G : List Nat} {q k2 p ci ci' : Nat} {fs fs' : List Value} (I : xGR h G q k2) (F : ∀ c, List.elem c G = true → c ≠ p → h'[c]? = h[c]?) (A : h[p]? = some (.inr (ci, fs))) (A' : h'[p]? = some (.inr (ci', fs'))) (e : fs'[q]? = fs[q]?) (F2 : h'[k2]? = h[k2]?) : xGR h' G q k2 := by
  intro n hn
  have h1 := I n hn
  have e2 : xl h' (k2, 0) = xl h (k2, 0) := xl_c F2
  have e1 : xl h' (G.getD n 0, q) = xl h (G.getD n 0, q) := by
    by_cases hp : G.getD n 0 = p
    · rw [hp]
      unfold xl
      dsimp only
      rw [A, A']
      dsimp only
      rw [e]
    · exact xl_c (F _ (xGR_mem hn) hp)
  rw [e1, e2]
  exact h1
theorem xwr_up {n : Nat} {hi : Int} {w : Nat → Int} {k : Nat} {v : Int} (h : xwr n hi w) (v0 : 0 ≤ v) (v1 : v ≤ hi) : xwr n hi (xup w k v) := by
  intro r hr
  by_cases q : r = k
  · rw [q, xup_s]; exact ⟨v0, v1⟩
  · rw [xup_o q]; exact h r hr
theorem xfi_eq {h : xe_H} {k q k2 q2 : Nat} {v : Int} (a : xfi h k q v) (b : xfi h k2 q2 v) : xl h (k, q) = xl h (k2, q2) := by
  obtain ⟨u, e1, e2⟩ := a
  obtain ⟨u2, f1, f2⟩ := b
  rw [e1, f1, xc_of (e2.trans f2.symm)]
theorem xgf_ra {h : xe_H} {G : List Nat} {q k2 n : Nat} {f : Nat → Int} (I : xgf h G q f) (R : xra h k2 n f) (hn : G.length ≤ n) : xGR h G q k2 := by
  obtain ⟨t, y, e1, e2⟩ := R
  intro m hm
  obtain ⟨u, f1, f2⟩ := I m hm
  exact ⟨u, t, y, f1, e1, xc_of ((e2.2 m (by omega)).trans f2.symm)⟩
theorem xlat_rng {y : List Int32} {lo hi : Int} {f : Int32} (hf : lo ≤ f.toInt ∧ f.toInt ≤ hi) : ∀ n : Nat, (∀ i, i < n → lo ≤ (y.getD i 0).toInt ∧ (y.getD i 0).toInt ≤ hi) → lo ≤ (xlat y f n).toInt ∧ (xlat y f n).toInt ≤ hi
  | 0, _ => hf
  | n + 1, h => by
    have ih := xlat_rng hf n (fun i hi => h i (by omega))
    by_cases q : (y.getD n 0).toInt = 99
    · rw [xlat_miss q]; exact ih
    · rw [xlat_told q]; exact h n (by omega)
/-! spans that meet -/
def xov (a b c : Nat → Int) (n : Nat) (r f t : Int) : Prop := ∃ k : Nat, k < n ∧ a k = r ∧ f < c k ∧ b k < t
theorem xov_0 {a b c : Nat → Int} {r f t : Int} : ¬ xov a b c 0 r f t := fun h => by
  obtain ⟨k, hk, _⟩ := h
  exact absurd hk (Nat.not_lt_zero k)
theorem xov_s {a b c : Nat → Int} {n : Nat} {r f t : Int} (h : ¬ xov a b c n r f t) (hn : ¬ (a n = r ∧ f < c n ∧ b n < t)) : ¬ xov a b c (n + 1) r f t := fun z => by
  obtain ⟨k, hk, hz⟩ := z
  by_cases q : k = n
  · rw [q] at hz
    exact hn hz
  · exact h ⟨k, by omega, hz⟩
theorem xov_y {a b c : Nat → Int} {n m : Nat} {r f t : Int} (hm : m < n) (h : a m = r ∧ f < c m ∧ b m < t) : xov a b c n r f t := ⟨m, hm, h⟩
theorem xts_add {tq tu ka va : Nat → Int} {n : Int} {N : Nat} {k0 s0 v0 w0 : Int} (hn : n = (N : Int)) (f : ∀ t : Nat, (t : Int) < n → (ka t = 0 ∧ tq t = 4 ∧ tu t = 1) ∨ (ka t ≠ 0 ∧ tq t = 2 ∧ tu t = va t)) (r : (k0 = 0 ∧ s0 = 4 ∧ v0 = 1) ∨ (k0 ≠ 0 ∧ s0 = 2 ∧ v0 = w0)) {n' : Int} (hn' : n' = n + 1) : ∀ t : Nat, (t : Int) < n' → (xup ka N k0 t = 0 ∧ xup tq N s0 t = 4 ∧ xup tu N v0 t = 1) ∨ (xup ka N k0 t ≠ 0 ∧ xup tq N s0 t = 2 ∧ xup tu N v0 t = xup va N w0 t) := by
  intro t ht
  by_cases q : t = N
  · rw [q, xup_s, xup_s, xup_s, xup_s]
    exact r
  · rw [xup_o q, xup_o q, xup_o q, xup_o q]
    exact f t (by omega)
/-- all numbers of an HOUR that stay, by rows -/
def xCof (nc nt : Int) (y0 y1 y2 y3 y4 y5 y6 y7 : List Int32) (tq tu ka va : Nat → Int) (yc ym : List Int32) : xFn := fun k i => if 20 ≤ k then (ym.getD (24 * (k - 20) + i) 0).toInt else match k with
  | 0 => (y0.getD i 0).toInt
  | 1 => (y1.getD i 0).toInt
  | 2 => (y2.getD i 0).toInt
  | 3 => (y3.getD i 0).toInt
  | 4 => (y4.getD i 0).toInt
  | 5 => (y5.getD i 0).toInt
  | 6 => (y6.getD i 0).toInt
  | 7 => (y7.getD i 0).toInt
  | 8 => tq i
  | 9 => tu i
  | 10 => (yc.getD i 0).toInt
  | 11 => nc
  | 12 => nt
  | 13 => ka i
  | _ => va i
theorem xCof_m {nc nt : Int} {y0 y1 y2 y3 y4 y5 y6 y7 : List Int32} {tq tu ka va : Nat → Int} {yc ym : List Int32} {q i : Nat} : xCof nc nt y0 y1 y2 y3 y4 y5 y6 y7 tq tu ka va yc ym (20 + q) i = (ym.getD (24 * q + i) 0).toInt := by
  unfold xCof
  rw [if_pos (Nat.le_add_right 20 q), Nat.add_sub_cancel_left]
