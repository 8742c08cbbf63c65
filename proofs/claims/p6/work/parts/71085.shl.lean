theorem xj_shl24 {y : Int32} (h0 : 0 ≤ y.toInt) (h1 : y.toInt ≤ 24) : 1 ≤ ((1 : Int32) <<< (y &&& 31)).toInt ∧ ((1 : Int32) <<< (y &&& 31)).toInt ≤ 16777216 := by
  have hk : ∀ n : Fin 25, 1 ≤ ((1 : Int32) <<< (Int32.ofNat n.val &&& 31)).toInt ∧ ((1 : Int32) <<< (Int32.ofNat n.val &&& 31)).toInt ≤ 16777216 := by decide +kernel
  have e : Int32.ofNat y.toInt.toNat = y := xc_of (by rw [show (Int32.ofNat y.toInt.toNat).toInt = (y.toInt.toNat : Int) from nI_toInt (by omega)]; omega)
  have := hk ⟨y.toInt.toNat, by omega⟩
  rw [show (Int32.ofNat ((⟨y.toInt.toNat, by omega⟩ : Fin 25)).val) = y from e] at this
  exact this
