/-! What counts of the weather: the latest told, else a first -/
def xlat (y : List Int32) (f : Int32) : Nat → Int32
  | 0 => f
  | n + 1 => if (y.getD n 0).toInt = 99 then xlat y f n else y.getD n 0
theorem xlat_congr {y z : List Int32} {f : Int32} : ∀ n : Nat, (∀ i, i < n → y.getD i 0 = z.getD i 0) → xlat y f n = xlat z f n
  | 0, _ => rfl
  | n + 1, h => by
    unfold xlat
    rw [h n (by omega), xlat_congr n (fun i hi => h i (by omega))]
theorem xlat_miss {y : List Int32} {f : Int32} {n : Nat} (h : (y.getD n 0).toInt = 99) : xlat y f (n + 1) = xlat y f n := by
  show (if (y.getD n 0).toInt = 99 then xlat y f n else y.getD n 0) = _
  rw [if_pos h]
theorem xlat_told {y : List Int32} {f : Int32} {n : Nat} (h : ¬ (y.getD n 0).toInt = 99) : xlat y f (n + 1) = y.getD n 0 := by
  show (if (y.getD n 0).toInt = 99 then xlat y f n else y.getD n 0) = _
  rw [if_neg h]
def xLr (z yt : List Int32) (f : Int32) : Prop := ∀ j, j < 601 → z.getD j 0 = xlat yt f (j + 1)
/-- the row that counts, out of the row that is told -/
def xL (a b : Option (Value ⊕ (Nat × xe_A))) (f : Int32) : Prop := ∃ (t1 t2 : Nat) (z yt : List Int32), a = some (.inr (t1, .inl z)) ∧ b = some (.inr (t2, .inl yt)) ∧ xLr z yt f
theorem xL_of {h : xe_H} {k q k2 q2 t t2 : Nat} {f : Int32} {z yt : List Int32} (e : xL (xl h (k, q)) (xl h (k2, q2)) f) (A : h[k]? = some (.inl (t, .inl z))) (A2 : h[k2]? = some (.inl (t2, .inl yt))) : xLr z yt f := by
  obtain ⟨s1, s2, z1, z2, e1, e2, e3⟩ := e
  rw [xl_arr A] at e1
  rw [xl_arr A2] at e2
  cases e1; cases e2
  exact e3
theorem xL_mk {h : xe_H} {k q k2 q2 t t2 : Nat} {f : Int32} {z yt : List Int32} (A : h[k]? = some (.inl (t, .inl z))) (A2 : h[k2]? = some (.inl (t2, .inl yt))) (H : xLr z yt f) : xL (xl h (k, q)) (xl h (k2, q2)) f := ⟨t, t2, z, yt, xl_arr A, xl_arr A2, H⟩
theorem xL_eq {z yt yc : List Int32} {f : Int32} (HL : xLr z yt f) (HE : ∀ i, i < 600 → yt.getD i 0 = yc.getD (0 + i) 0) {i v : Int32} (h0 : 0 ≤ i.toInt) (h1 : i.toInt ≤ 599) (ev : z.getD i.toNatClampNeg 0 = v) : xlat yc f (i.toNatClampNeg + 1) = v := by
  have q1 := xj_tn h0
  rw [← ev, HL _ (by omega)]
  exact xlat_congr _ (fun j hj => by have := HE j (by omega); rw [Nat.zero_add] at this; exact this.symm)
/-- a telling at i changes nothing of what counts ahead of i -/
theorem xlat_set {yt z : List Int32} {f v i : Int32} (h0 : 0 ≤ i.toInt) (s : yt.set i.toNatClampNeg v = z) {n : Nat} (hn : n ≤ i.toNatClampNeg) : xlat z f n = xlat yt f n :=
  xlat_congr n (fun j hj => by rw [← s, xj_gs, if_neg (fun q => by omega)])
theorem xL_la {z yt yt' : List Int32} {f v i w la : Int32} (HL : xLr z yt f) (h0 : 0 ≤ i.toInt) (h1 : i.toInt ≤ 600) (hw : w.toInt = i.toInt - 1) (hw0 : 0 ≤ w.toInt) (s : yt.set i.toNatClampNeg v = yt') (ev : z.getD w.toNatClampNeg 0 = la) : la = xlat yt' f i.toNatClampNeg := by
  have q1 := xj_tn h0
  have q2 := xj_tn hw0
  rw [xlat_set h0 s (Nat.le_refl _), ← ev, HL _ (by omega)]
  rw [show w.toNatClampNeg + 1 = i.toNatClampNeg by omega]
theorem xL_la0 {yt' : List Int32} {f i : Int32} (h0 : i.toInt = 0) : f = xlat yt' f i.toNatClampNeg := by
  have q1 := xj_tn (i := i) (by omega)
  rw [show i.toNatClampNeg = 0 by omega]
  rfl
theorem xL_pre {z yt yt' : List Int32} {f v i : Int32} (HL : xLr z yt f) (h0 : 0 ≤ i.toInt) (h1 : i.toInt ≤ 600) (s : yt.set i.toNatClampNeg v = yt') : ∀ j, j < i.toNatClampNeg → z.getD j 0 = xlat yt' f (j + 1) := by
  have q1 := xj_tn h0
  intro j hj
  rw [HL j (by omega), xlat_set h0 s (by omega)]
theorem xl_cst {h : xe_H} {k q ci : Nat} {fs : List Value} {u w : Int32} (e : xl h (k, q) = some (.inl (.int w))) (A : h[k]? = some (.inr (ci, fs))) (hu : fs[q]? = some (.int u)) : u = w := by
  rw [xl_of A hu] at e
  cases e
  rfl
theorem xlat_rep {n : Nat} {f : Int32} : ∀ m, m ≤ n → xlat (List.replicate n 99) f m = f
  | 0, _ => rfl
  | m + 1, h => by
    rw [xlat_miss ?_]
    · exact xlat_rep m (by omega)
    · rw [List.getD_eq_getElem?_getD, List.getElem?_replicate, if_pos (by omega)]
      rfl
theorem xlat_new {f : Int32} {j : Nat} (hj : j < 601) : xlat (List.replicate 601 99) f (j + 1) = (List.replicate 601 f).getD j 0 := by
  rw [xlat_rep _ (by omega), List.getD_eq_getElem?_getD, List.getElem?_replicate, if_pos hj]
  rfl
