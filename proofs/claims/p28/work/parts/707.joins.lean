/-! JOINS: how many twos, as a function of the rows -/
def xjp (ys yf yd : List Int32) (a b : Nat) : Prop := (yd.getD a 0).toInt = 1 ∧ (yd.getD b 0).toInt = 1 ∧ (((ys.getD a 0).toInt - (ys.getD b 0).toInt = 0 ∧ ((yf.getD a 0).toInt - (yf.getD b 0).toInt = 1 ∨ (yf.getD a 0).toInt - (yf.getD b 0).toInt = -1)) ∨ ((yf.getD a 0).toInt - (yf.getD b 0).toInt = 0 ∧ ((ys.getD a 0).toInt - (ys.getD b 0).toInt = 1 ∨ (ys.getD a 0).toInt - (ys.getD b 0).toInt = -1)))
noncomputable def xjr (P : Nat → Nat → Prop) (a : Nat) : Nat → Int32
  | 0 => 0
  | b + 1 => xjr P a b + @ite _ (P a b) (Classical.propDecidable _) 1 0
noncomputable def xjt (P : Nat → Nat → Prop) : Nat → Int32
  | 0 => 0
  | a + 1 => xjt P a + xjr P a a
theorem xj_in {P : Nat → Nat → Prop} {x1 x2 : Int32} (e : x1 = xjt P x2.toNatClampNeg) : x1 = xjt P x2.toNatClampNeg + xjr P x2.toNatClampNeg (Int32.toNatClampNeg 0) := by
  rw [show Int32.toNatClampNeg 0 = 0 from rfl]
  show x1 = xjt P x2.toNatClampNeg + 0
  rw [Int32.add_zero]
  exact e
theorem xj_out {P : Nat → Nat → Prop} {x1 x2 x3 v : Int32} (e : x1 = xjt P x2.toNatClampNeg + xjr P x2.toNatClampNeg x3.toNatClampNeg) (h0 : 0 ≤ x2.toInt) (h3 : x3.toInt = x2.toInt) (hv : v.toInt = x2.toInt + 1) : x1 = xjt P v.toNatClampNeg := by
  have q2 := xj_tn h0
  have q3 := xj_tn (i := x3) (by omega)
  have qv := xj_tn (i := v) (by omega)
  rw [show v.toNatClampNeg = x2.toNatClampNeg + 1 by omega]
  show x1 = xjt P x2.toNatClampNeg + xjr P x2.toNatClampNeg x2.toNatClampNeg
  rw [e, show x3.toNatClampNeg = x2.toNatClampNeg by omega]
theorem xj_yes {P : Nat → Nat → Prop} {x1 x2 x3 v w : Int32} (hp : P x2.toNatClampNeg x3.toNatClampNeg) (e : x1 = xjt P x2.toNatClampNeg + xjr P x2.toNatClampNeg x3.toNatClampNeg) (ev : x1 + 1 = v) (h0 : 0 ≤ x3.toInt) (hw : w.toInt = x3.toInt + 1) : v = xjt P x2.toNatClampNeg + xjr P x2.toNatClampNeg w.toNatClampNeg := by
  have q3 := xj_tn h0
  have qw := xj_tn (i := w) (by omega)
  rw [show w.toNatClampNeg = x3.toNatClampNeg + 1 by omega]
  show v = xjt P x2.toNatClampNeg + (xjr P x2.toNatClampNeg x3.toNatClampNeg + @ite _ (P x2.toNatClampNeg x3.toNatClampNeg) (Classical.propDecidable _) 1 0)
  rw [if_pos hp, ← Int32.add_assoc, ← e, ev]
theorem xj_no {P : Nat → Nat → Prop} {x1 x2 x3 w : Int32} (hp : ¬ P x2.toNatClampNeg x3.toNatClampNeg) (e : x1 = xjt P x2.toNatClampNeg + xjr P x2.toNatClampNeg x3.toNatClampNeg) (h0 : 0 ≤ x3.toInt) (hw : w.toInt = x3.toInt + 1) : x1 = xjt P x2.toNatClampNeg + xjr P x2.toNatClampNeg w.toNatClampNeg := by
  have q3 := xj_tn h0
  have qw := xj_tn (i := w) (by omega)
  rw [show w.toNatClampNeg = x3.toNatClampNeg + 1 by omega]
  show x1 = xjt P x2.toNatClampNeg + (xjr P x2.toNatClampNeg x3.toNatClampNeg + @ite _ (P x2.toNatClampNeg x3.toNatClampNeg) (Classical.propDecidable _) 1 0)
  rw [if_neg hp, Int32.add_zero]
  exact e
theorem xj_no0 {P : Nat → Nat → Prop} {x1 x2 x3 v w : Int32} (hp : ¬ P x2.toNatClampNeg x3.toNatClampNeg) (e : x1 = xjt P x2.toNatClampNeg + xjr P x2.toNatClampNeg x3.toNatClampNeg) (ev : x1 + 0 = v) (h0 : 0 ≤ x3.toInt) (hw : w.toInt = x3.toInt + 1) : v = xjt P x2.toNatClampNeg + xjr P x2.toNatClampNeg w.toNatClampNeg := by
  rw [← ev, Int32.add_zero]
  exact xj_no hp e h0 hw
theorem xj_end {P : Nat → Nat → Prop} {x1 x2 : Int32} (e : x1 = xjt P x2.toNatClampNeg) (h : x2.toInt = 24) : xjt P 24 = x1 := by
  have q2 := xj_tn (i := x2) (by omega)
  rw [e, show x2.toNatClampNeg = 24 by omega]
