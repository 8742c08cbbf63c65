set_option maxHeartbeats 4000000 in
theorem lp_58_0 {J : xe_J} {ov : List (List Int32)} (hJ : ∀ d mj as h, mj ≠ xe_loff → J d mj as h = none) (hov1 : ov[1]? = some [10, 0, 0, 0, 0, 0]) (hov2 : ov[2]? = some [99, 30, 50, 50, 1, 99999]) {d : Nat} {Q : Option Value → xe_H → Prop} {hb : xe_H} (kk : (∀ (r : Int32) (h' : xe_H), xk [(0, 9), (115, 1), (83, 0), (29, 0), (31, 0), (33, 0), (35, 0), (37, 0), (39, 0), (41, 0), (43, 0), (45, 0), (47, 0), (49, 0), (51, 0), (125, 0), (29, 2), (31, 2), (33, 2), (35, 2), (37, 2), (39, 2), (41, 2), (43, 2), (45, 2), (47, 2), (49, 2), (51, 2), (127, 0), (1, 5), (115, 23)] hb h' → Q (some (.int r)) h')) : ∀ m : Nat, (∀ (x2 : Int32) (h : xe_H), (0 ≤ x2.toInt ∧ x2.toInt ≤ 0) → xk [(0, 9), (115, 1), (83, 0), (29, 0), (31, 0), (33, 0), (35, 0), (37, 0), (39, 0), (41, 0), (43, 0), (45, 0), (47, 0), (49, 0), (51, 0), (125, 0), (29, 2), (31, 2), (33, 2), (35, 2), (37, 2), (39, 2), (41, 2), (43, 2), (45, 2), (47, 2), (49, 2), (51, 2), (127, 0), (1, 5), (115, 23)] hb h → (-1) * 0 + 65628 < (m : Int) → xw J ov (d + 7) 58 (15, [(0, .ref 115), (1, .int 1), (2, .int x2), (3, .int 0)], [], h) Q) ∧ (∀ (x2 : Int32) (h : xe_H), (0 ≤ x2.toInt ∧ x2.toInt ≤ 2) → xk [(0, 9), (115, 1), (83, 0), (29, 0), (31, 0), (33, 0), (35, 0), (37, 0), (39, 0), (41, 0), (43, 0), (45, 0), (47, 0), (49, 0), (51, 0), (125, 0), (29, 2), (31, 2), (33, 2), (35, 2), (37, 2), (39, 2), (41, 2), (43, 2), (45, 2), (47, 2), (49, 2), (51, 2), (127, 0), (1, 5), (115, 23)] hb h → (-1) * 1 + 65628 < (m : Int) → xw J ov (d + 7) 58 (15, [(0, .ref 115), (1, .int 3), (2, .int x2), (3, .int 1)], [], h) Q) ∧ (∀ (x2 : Int32) (h : xe_H), (0 ≤ x2.toInt ∧ x2.toInt ≤ 8) → xk [(0, 9), (115, 1), (83, 0), (29, 0), (31, 0), (33, 0), (35, 0), (37, 0), (39, 0), (41, 0), (43, 0), (45, 0), (47, 0), (49, 0), (51, 0), (125, 0), (29, 2), (31, 2), (33, 2), (35, 2), (37, 2), (39, 2), (41, 2), (43, 2), (45, 2), (47, 2), (49, 2), (51, 2), (127, 0), (1, 5), (115, 23)] hb h → (-1) * 2 + 65628 < (m : Int) → xw J ov (d + 7) 58 (15, [(0, .ref 115), (1, .int 9), (2, .int x2), (3, .int 2)], [], h) Q) ∧ (∀ (x2 : Int32) (h : xe_H), (0 ≤ x2.toInt ∧ x2.toInt ≤ 26) → xk [(0, 9), (115, 1), (83, 0), (29, 0), (31, 0), (33, 0), (35, 0), (37, 0), (39, 0), (41, 0), (43, 0), (45, 0), (47, 0), (49, 0), (51, 0), (125, 0), (29, 2), (31, 2), (33, 2), (35, 2), (37, 2), (39, 2), (41, 2), (43, 2), (45, 2), (47, 2), (49, 2), (51, 2), (127, 0), (1, 5), (115, 23)] hb h → (-1) * 3 + 65628 < (m : Int) → xw J ov (d + 7) 58 (15, [(0, .ref 115), (1, .int 27), (2, .int x2), (3, .int 3)], [], h) Q) ∧ (∀ (x2 : Int32) (h : xe_H), (0 ≤ x2.toInt ∧ x2.toInt ≤ 80) → xk [(0, 9), (115, 1), (83, 0), (29, 0), (31, 0), (33, 0), (35, 0), (37, 0), (39, 0), (41, 0), (43, 0), (45, 0), (47, 0), (49, 0), (51, 0), (125, 0), (29, 2), (31, 2), (33, 2), (35, 2), (37, 2), (39, 2), (41, 2), (43, 2), (45, 2), (47, 2), (49, 2), (51, 2), (127, 0), (1, 5), (115, 23)] hb h → (-1) * 4 + 65628 < (m : Int) → xw J ov (d + 7) 58 (15, [(0, .ref 115), (1, .int 81), (2, .int x2), (3, .int 4)], [], h) Q) ∧ (∀ (x2 : Int32) (h : xe_H), (0 ≤ x2.toInt ∧ x2.toInt ≤ 242) → xk [(0, 9), (115, 1), (83, 0), (29, 0), (31, 0), (33, 0), (35, 0), (37, 0), (39, 0), (41, 0), (43, 0), (45, 0), (47, 0), (49, 0), (51, 0), (125, 0), (29, 2), (31, 2), (33, 2), (35, 2), (37, 2), (39, 2), (41, 2), (43, 2), (45, 2), (47, 2), (49, 2), (51, 2), (127, 0), (1, 5), (115, 23)] hb h → (-1) * 5 + 65628 < (m : Int) → xw J ov (d + 7) 58 (15, [(0, .ref 115), (1, .int 243), (2, .int x2), (3, .int 5)], [], h) Q) ∧ (∀ (x2 : Int32) (h : xe_H), (0 ≤ x2.toInt ∧ x2.toInt ≤ 728) → xk [(0, 9), (115, 1), (83, 0), (29, 0), (31, 0), (33, 0), (35, 0), (37, 0), (39, 0), (41, 0), (43, 0), (45, 0), (47, 0), (49, 0), (51, 0), (125, 0), (29, 2), (31, 2), (33, 2), (35, 2), (37, 2), (39, 2), (41, 2), (43, 2), (45, 2), (47, 2), (49, 2), (51, 2), (127, 0), (1, 5), (115, 23)] hb h → (-1) * 6 + 65628 < (m : Int) → xw J ov (d + 7) 58 (15, [(0, .ref 115), (1, .int 729), (2, .int x2), (3, .int 6)], [], h) Q) ∧ (∀ (x2 : Int32) (h : xe_H), (0 ≤ x2.toInt ∧ x2.toInt ≤ 2186) → xk [(0, 9), (115, 1), (83, 0), (29, 0), (31, 0), (33, 0), (35, 0), (37, 0), (39, 0), (41, 0), (43, 0), (45, 0), (47, 0), (49, 0), (51, 0), (125, 0), (29, 2), (31, 2), (33, 2), (35, 2), (37, 2), (39, 2), (41, 2), (43, 2), (45, 2), (47, 2), (49, 2), (51, 2), (127, 0), (1, 5), (115, 23)] hb h → (-1) * 7 + 65628 < (m : Int) → xw J ov (d + 7) 58 (15, [(0, .ref 115), (1, .int 2187), (2, .int x2), (3, .int 7)], [], h) Q) ∧ (∀ (x2 : Int32) (h : xe_H), (0 ≤ x2.toInt ∧ x2.toInt ≤ 6560) → xk [(0, 9), (115, 1), (83, 0), (29, 0), (31, 0), (33, 0), (35, 0), (37, 0), (39, 0), (41, 0), (43, 0), (45, 0), (47, 0), (49, 0), (51, 0), (125, 0), (29, 2), (31, 2), (33, 2), (35, 2), (37, 2), (39, 2), (41, 2), (43, 2), (45, 2), (47, 2), (49, 2), (51, 2), (127, 0), (1, 5), (115, 23)] hb h → (-1) * 8 + 65628 < (m : Int) → xw J ov (d + 7) 58 (15, [(0, .ref 115), (1, .int 6561), (2, .int x2), (3, .int 8)], [], h) Q) ∧ (∀ (x2 : Int32) (x3 : Int32) (h : xe_H), (0 ≤ x2.toInt ∧ x2.toInt ≤ 6560) → ((-1) ≤ x3.toInt ∧ x3.toInt ≤ 6560) → xk [(0, 9), (115, 1), (83, 0), (29, 0), (31, 0), (33, 0), (35, 0), (37, 0), (39, 0), (41, 0), (43, 0), (45, 0), (47, 0), (49, 0), (51, 0), (125, 0), (29, 2), (31, 2), (33, 2), (35, 2), (37, 2), (39, 2), (41, 2), (43, 2), (45, 2), (47, 2), (49, 2), (51, 2), (127, 0), (1, 5), (115, 23)] hb h → (10) * x3.toInt + 19 < (m : Int) → xw J ov (d + 7) 58 (48, [(0, .ref 115), (2, .int x2), (3, .int x3)], [], h) Q) ∧ (∀ (x2 : Int32) (x3 : Int32) (x4 : Int32) (h : xe_H), (0 ≤ x2.toInt ∧ x2.toInt ≤ 6560) → (0 ≤ x3.toInt ∧ x3.toInt ≤ 6560) → ((-1) ≤ x4.toInt ∧ x4.toInt ≤ (-1)) → xk [(0, 9), (115, 1), (83, 0), (29, 0), (31, 0), (33, 0), (35, 0), (37, 0), (39, 0), (41, 0), (43, 0), (45, 0), (47, 0), (49, 0), (51, 0), (125, 0), (29, 2), (31, 2), (33, 2), (35, 2), (37, 2), (39, 2), (41, 2), (43, 2), (45, 2), (47, 2), (49, 2), (51, 2), (127, 0), (1, 5), (115, 23)] hb h → (10) * x3.toInt + (-1) * 0 + 18 < (m : Int) → xw J ov (d + 7) 58 (62, [(0, .ref 115), (2, .int x2), (3, .int x3), (4, .int x4), (5, .int 1), (6, .int 0)], [], h) Q) ∧ (∀ (x2 : Int32) (x3 : Int32) (x4 : Int32) (h : xe_H), (0 ≤ x2.toInt ∧ x2.toInt ≤ 6560) → (0 ≤ x3.toInt ∧ x3.toInt ≤ 6560) → xk [(0, 9), (115, 1), (83, 0), (29, 0), (31, 0), (33, 0), (35, 0), (37, 0), (39, 0), (41, 0), (43, 0), (45, 0), (47, 0), (49, 0), (51, 0), (125, 0), (29, 2), (31, 2), (33, 2), (35, 2), (37, 2), (39, 2), (41, 2), (43, 2), (45, 2), (47, 2), (49, 2), (51, 2), (127, 0), (1, 5), (115, 23)] hb h → (10) * x3.toInt + (-1) * 1 + 18 < (m : Int) → xw J ov (d + 7) 58 (62, [(0, .ref 115), (2, .int x2), (3, .int x3), (4, .int x4), (5, .int 3), (6, .int 1)], [], h) Q) ∧ (∀ (x2 : Int32) (x3 : Int32) (x4 : Int32) (h : xe_H), (0 ≤ x2.toInt ∧ x2.toInt ≤ 6560) → (0 ≤ x3.toInt ∧ x3.toInt ≤ 6560) → xk [(0, 9), (115, 1), (83, 0), (29, 0), (31, 0), (33, 0), (35, 0), (37, 0), (39, 0), (41, 0), (43, 0), (45, 0), (47, 0), (49, 0), (51, 0), (125, 0), (29, 2), (31, 2), (33, 2), (35, 2), (37, 2), (39, 2), (41, 2), (43, 2), (45, 2), (47, 2), (49, 2), (51, 2), (127, 0), (1, 5), (115, 23)] hb h → (10) * x3.toInt + (-1) * 2 + 18 < (m : Int) → xw J ov (d + 7) 58 (62, [(0, .ref 115), (2, .int x2), (3, .int x3), (4, .int x4), (5, .int 9), (6, .int 2)], [], h) Q) ∧ (∀ (x2 : Int32) (x3 : Int32) (x4 : Int32) (h : xe_H), (0 ≤ x2.toInt ∧ x2.toInt ≤ 6560) → (0 ≤ x3.toInt ∧ x3.toInt ≤ 6560) → xk [(0, 9), (115, 1), (83, 0), (29, 0), (31, 0), (33, 0), (35, 0), (37, 0), (39, 0), (41, 0), (43, 0), (45, 0), (47, 0), (49, 0), (51, 0), (125, 0), (29, 2), (31, 2), (33, 2), (35, 2), (37, 2), (39, 2), (41, 2), (43, 2), (45, 2), (47, 2), (49, 2), (51, 2), (127, 0), (1, 5), (115, 23)] hb h → (10) * x3.toInt + (-1) * 3 + 18 < (m : Int) → xw J ov (d + 7) 58 (62, [(0, .ref 115), (2, .int x2), (3, .int x3), (4, .int x4), (5, .int 27), (6, .int 3)], [], h) Q) ∧ (∀ (x2 : Int32) (x3 : Int32) (x4 : Int32) (h : xe_H), (0 ≤ x2.toInt ∧ x2.toInt ≤ 6560) → (0 ≤ x3.toInt ∧ x3.toInt ≤ 6560) → xk [(0, 9), (115, 1), (83, 0), (29, 0), (31, 0), (33, 0), (35, 0), (37, 0), (39, 0), (41, 0), (43, 0), (45, 0), (47, 0), (49, 0), (51, 0), (125, 0), (29, 2), (31, 2), (33, 2), (35, 2), (37, 2), (39, 2), (41, 2), (43, 2), (45, 2), (47, 2), (49, 2), (51, 2), (127, 0), (1, 5), (115, 23)] hb h → (10) * x3.toInt + (-1) * 4 + 18 < (m : Int) → xw J ov (d + 7) 58 (62, [(0, .ref 115), (2, .int x2), (3, .int x3), (4, .int x4), (5, .int 81), (6, .int 4)], [], h) Q) ∧ (∀ (x2 : Int32) (x3 : Int32) (x4 : Int32) (h : xe_H), (0 ≤ x2.toInt ∧ x2.toInt ≤ 6560) → (0 ≤ x3.toInt ∧ x3.toInt ≤ 6560) → xk [(0, 9), (115, 1), (83, 0), (29, 0), (31, 0), (33, 0), (35, 0), (37, 0), (39, 0), (41, 0), (43, 0), (45, 0), (47, 0), (49, 0), (51, 0), (125, 0), (29, 2), (31, 2), (33, 2), (35, 2), (37, 2), (39, 2), (41, 2), (43, 2), (45, 2), (47, 2), (49, 2), (51, 2), (127, 0), (1, 5), (115, 23)] hb h → (10) * x3.toInt + (-1) * 5 + 18 < (m : Int) → xw J ov (d + 7) 58 (62, [(0, .ref 115), (2, .int x2), (3, .int x3), (4, .int x4), (5, .int 243), (6, .int 5)], [], h) Q) ∧ (∀ (x2 : Int32) (x3 : Int32) (x4 : Int32) (h : xe_H), (0 ≤ x2.toInt ∧ x2.toInt ≤ 6560) → (0 ≤ x3.toInt ∧ x3.toInt ≤ 6560) → xk [(0, 9), (115, 1), (83, 0), (29, 0), (31, 0), (33, 0), (35, 0), (37, 0), (39, 0), (41, 0), (43, 0), (45, 0), (47, 0), (49, 0), (51, 0), (125, 0), (29, 2), (31, 2), (33, 2), (35, 2), (37, 2), (39, 2), (41, 2), (43, 2), (45, 2), (47, 2), (49, 2), (51, 2), (127, 0), (1, 5), (115, 23)] hb h → (10) * x3.toInt + (-1) * 6 + 18 < (m : Int) → xw J ov (d + 7) 58 (62, [(0, .ref 115), (2, .int x2), (3, .int x3), (4, .int x4), (5, .int 729), (6, .int 6)], [], h) Q) ∧ (∀ (x2 : Int32) (x3 : Int32) (x4 : Int32) (h : xe_H), (0 ≤ x2.toInt ∧ x2.toInt ≤ 6560) → (0 ≤ x3.toInt ∧ x3.toInt ≤ 6560) → xk [(0, 9), (115, 1), (83, 0), (29, 0), (31, 0), (33, 0), (35, 0), (37, 0), (39, 0), (41, 0), (43, 0), (45, 0), (47, 0), (49, 0), (51, 0), (125, 0), (29, 2), (31, 2), (33, 2), (35, 2), (37, 2), (39, 2), (41, 2), (43, 2), (45, 2), (47, 2), (49, 2), (51, 2), (127, 0), (1, 5), (115, 23)] hb h → (10) * x3.toInt + (-1) * 7 + 18 < (m : Int) → xw J ov (d + 7) 58 (62, [(0, .ref 115), (2, .int x2), (3, .int x3), (4, .int x4), (5, .int 2187), (6, .int 7)], [], h) Q) ∧ (∀ (x2 : Int32) (x3 : Int32) (x4 : Int32) (h : xe_H), (0 ≤ x2.toInt ∧ x2.toInt ≤ 6560) → (0 ≤ x3.toInt ∧ x3.toInt ≤ 6560) → xk [(0, 9), (115, 1), (83, 0), (29, 0), (31, 0), (33, 0), (35, 0), (37, 0), (39, 0), (41, 0), (43, 0), (45, 0), (47, 0), (49, 0), (51, 0), (125, 0), (29, 2), (31, 2), (33, 2), (35, 2), (37, 2), (39, 2), (41, 2), (43, 2), (45, 2), (47, 2), (49, 2), (51, 2), (127, 0), (1, 5), (115, 23)] hb h → (10) * x3.toInt + (-1) * 8 + 18 < (m : Int) → xw J ov (d + 7) 58 (62, [(0, .ref 115), (2, .int x2), (3, .int x3), (4, .int x4), (5, .int 6561), (6, .int 8)], [], h) Q) := by
  intro m
  induction m with
  | zero =>
    refine ⟨?_, ?_, ?_, ?_, ?_, ?_, ?_, ?_, ?_, ?_, ?_, ?_, ?_, ?_, ?_, ?_, ?_, ?_, ?_⟩
    · intro x2 h b2 K hm; exfalso; omega
    · intro x2 h b2 K hm; exfalso; omega
    · intro x2 h b2 K hm; exfalso; omega
    · intro x2 h b2 K hm; exfalso; omega
    · intro x2 h b2 K hm; exfalso; omega
    · intro x2 h b2 K hm; exfalso; omega
    · intro x2 h b2 K hm; exfalso; omega
    · intro x2 h b2 K hm; exfalso; omega
    · intro x2 h b2 K hm; exfalso; omega
    · intro x2 x3 h b2 b3 K hm; exfalso; omega
    · intro x2 x3 x4 h b2 b3 b4 K hm; exfalso; omega
    · intro x2 x3 x4 h b2 b3 K hm; have rx4 := xc_rng x4; exfalso; omega
    · intro x2 x3 x4 h b2 b3 K hm; have rx4 := xc_rng x4; exfalso; omega
    · intro x2 x3 x4 h b2 b3 K hm; have rx4 := xc_rng x4; exfalso; omega
    · intro x2 x3 x4 h b2 b3 K hm; have rx4 := xc_rng x4; exfalso; omega
    · intro x2 x3 x4 h b2 b3 K hm; have rx4 := xc_rng x4; exfalso; omega
    · intro x2 x3 x4 h b2 b3 K hm; have rx4 := xc_rng x4; exfalso; omega
    · intro x2 x3 x4 h b2 b3 K hm; have rx4 := xc_rng x4; exfalso; omega
    · intro x2 x3 x4 h b2 b3 K hm; have rx4 := xc_rng x4; exfalso; omega
  | succ m ih =>
    obtain ⟨i0, i1, i2, i3, i4, i5, i6, i7, i8, i9, i10, i11, i12, i13, i14, i15, i16, i17, i18⟩ := ih
    refine ⟨?_, ?_, ?_, ?_, ?_, ?_, ?_, ?_, ?_, ?_, ?_, ?_, ?_, ?_, ?_, ?_, ?_, ?_, ?_⟩
    · intro x2 h b2 K hm
      refine xi_iload_n (pc' := 16) (x := 0) kc_58_15 rfl rfl ?_
      refine xi_aload_n (pc' := 17) (x := 115) kc_58_16 rfl rfl ?_
      refine xp_115 K.1 (fun u1 u2 u3 u4 u5 u6 u7 u8 u9 u10 u11 u12 u13 bu1 bu2 bu3 bu4 bu5 bu6 bu7 bu8 bu9 bu10 bu11 bu12 bu13 A14 => ?_)
      refine xi_getfield (pc' := 20) (v := .int u10) kc_58_17 rfl rfl rfl A14 rfl ?_
      by_cases c15 : u10.toInt ≤ 0
      · refine xi_cmt (pc' := 44) kc_58_20 rfl (xc_ge_t (X := 0) (Y := u10.toInt) (by decide) rfl (by omega)) ?_
        refine xi_iload_n (pc' := 45) (x := 1) kc_58_44 rfl rfl ?_
        refine xi_iconst (pc' := 46) (v := 1) kc_58_45 rfl rfl ?_
        refine xi_isub (pc' := 47) (v := 0) kc_58_46 rfl rfl ?_
        refine xi_istore_n (pc' := 48) (lv' := [(3, .int 0), (0, .ref 115), (1, .int 1), (2, .int x2)]) kc_58_47 rfl rfl (xm_lt ml_58 rfl) ?_
        have zc0 : (0 : Int32).toInt = 0 := by decide
        refine xw_lv (b := [(0, .ref 115), (2, .int x2), (3, .int 0)]) (lvS_cons (lvS_cons (lvS_cons (lvS_nil (show ([3, 0, 1, 2] : List Nat).Nodup by decide)) rfl) rfl) rfl) ?_
        exact i9 x2 0 h (by omega) (by omega) K (by omega)
      · refine xi_cmf (pc' := 23) kc_58_20 rfl (xc_ge_f (X := 0) (Y := u10.toInt) (by decide) rfl (by omega)) ?_
        refine xi_iload_n (pc' := 24) (x := x2) kc_58_23 rfl rfl ?_
        refine xi_iload_n (pc' := 25) (x := 1) kc_58_24 rfl rfl ?_
        refine xi_aload_n (pc' := 26) (x := 115) kc_58_25 rfl rfl ?_
        refine xi_getfield (pc' := 29) (v := .ref 154) kc_58_26 rfl rfl rfl A14 rfl ?_
        refine xi_iload_n (pc' := 30) (x := 0) kc_58_29 rfl rfl ?_
        refine xcps4 (xk_arr K.1 xD_154) (fun y16 A16 hy16 ry16 => ?_)
        refine xcps4 (xj_get hy16 ry16 (i := 0) (by decide) (by decide)) (fun v17 ev17 bv17 dv17 => ?_)
        refine xi_iaload (pc' := 31) (v := v17) kc_58_30 rfl A16 (by decide) rfl (xi_in (by decide) (by rw [hy16]; decide)) ev17 ?_
        refine xcps2 (α := Int32) (1 * v17) (fun v18 ev18 => ?_)
        have zv18 : v18.toInt = v17.toInt := by rw [← ev18]; exact (xz_mul (X := 1) (Y := v17.toInt) (by decide) rfl (by omega) (by omega)).trans (by omega)
        refine xi_imul (pc' := 32) (v := v18) kc_58_31 rfl ev18 ?_
        refine xcps2 (α := Int32) (x2 + v18) (fun v19 ev19 => ?_)
        have zv19 : v19.toInt = (x2.toInt + v17.toInt) := by rw [← ev19]; exact (xz_add (X := x2.toInt) (Y := v17.toInt) rfl zv18 (by omega) (by omega)).trans (by omega)
        refine xi_iadd (pc' := 33) (v := v19) kc_58_32 rfl ev19 ?_
        refine xi_istore_n (pc' := 34) (lv' := [(2, .int v19), (0, .ref 115), (1, .int 1), (3, .int 0)]) kc_58_33 rfl rfl (xm_lt ml_58 rfl) ?_
        refine xi_iload_n (pc' := 35) (x := 1) kc_58_34 rfl rfl ?_
        refine xi_iconst (pc' := 36) (v := 3) kc_58_35 rfl rfl ?_
        refine xi_imul (pc' := 37) (v := 3) kc_58_36 rfl rfl ?_
        refine xi_istore_n (pc' := 38) (lv' := [(1, .int 3), (2, .int v19), (0, .ref 115), (3, .int 0)]) kc_58_37 rfl rfl (xm_lt ml_58 rfl) ?_
        refine xi_iinc (pc' := 41) (x := 0) (v := 1) (lv' := [(3, .int 1), (1, .int 3), (2, .int v19), (0, .ref 115)]) kc_58_38 rfl rfl rfl rfl (xm_lt ml_58 rfl) ?_
        refine xi_goto (pc' := 15) kc_58_41 rfl ?_
        have zc1 : (1 : Int32).toInt = 1 := by decide
        have zc3 : (3 : Int32).toInt = 3 := by decide
        refine xw_lv (b := [(0, .ref 115), (1, .int 3), (2, .int v19), (3, .int 1)]) (lvS_cons (lvS_cons (lvS_cons (lvS_cons (lvS_nil (show ([3, 1, 2, 0] : List Nat).Nodup by decide)) rfl) rfl) rfl) rfl) ?_
        exact i1 v19 h (by omega) K (by omega)
    · intro x2 h b2 K hm
      refine xi_iload_n (pc' := 16) (x := 1) kc_58_15 rfl rfl ?_
      refine xi_aload_n (pc' := 17) (x := 115) kc_58_16 rfl rfl ?_
      refine xp_115 K.1 (fun u1 u2 u3 u4 u5 u6 u7 u8 u9 u10 u11 u12 u13 bu1 bu2 bu3 bu4 bu5 bu6 bu7 bu8 bu9 bu10 bu11 bu12 bu13 A14 => ?_)
      refine xi_getfield (pc' := 20) (v := .int u10) kc_58_17 rfl rfl rfl A14 rfl ?_
      by_cases c15 : u10.toInt ≤ 1
      · refine xi_cmt (pc' := 44) kc_58_20 rfl (xc_ge_t (X := 1) (Y := u10.toInt) (by decide) rfl (by omega)) ?_
        refine xi_iload_n (pc' := 45) (x := 3) kc_58_44 rfl rfl ?_
        refine xi_iconst (pc' := 46) (v := 1) kc_58_45 rfl rfl ?_
        refine xi_isub (pc' := 47) (v := 2) kc_58_46 rfl rfl ?_
        refine xi_istore_n (pc' := 48) (lv' := [(3, .int 2), (0, .ref 115), (1, .int 3), (2, .int x2)]) kc_58_47 rfl rfl (xm_lt ml_58 rfl) ?_
        have zc2 : (2 : Int32).toInt = 2 := by decide
        refine xw_lv (b := [(0, .ref 115), (2, .int x2), (3, .int 2)]) (lvS_cons (lvS_cons (lvS_cons (lvS_nil (show ([3, 0, 1, 2] : List Nat).Nodup by decide)) rfl) rfl) rfl) ?_
        exact i9 x2 2 h (by omega) (by omega) K (by omega)
      · refine xi_cmf (pc' := 23) kc_58_20 rfl (xc_ge_f (X := 1) (Y := u10.toInt) (by decide) rfl (by omega)) ?_
        refine xi_iload_n (pc' := 24) (x := x2) kc_58_23 rfl rfl ?_
        refine xi_iload_n (pc' := 25) (x := 3) kc_58_24 rfl rfl ?_
        refine xi_aload_n (pc' := 26) (x := 115) kc_58_25 rfl rfl ?_
        refine xi_getfield (pc' := 29) (v := .ref 154) kc_58_26 rfl rfl rfl A14 rfl ?_
        refine xi_iload_n (pc' := 30) (x := 1) kc_58_29 rfl rfl ?_
        refine xcps4 (xk_arr K.1 xD_154) (fun y16 A16 hy16 ry16 => ?_)
        refine xcps4 (xj_get hy16 ry16 (i := 1) (by decide) (by decide)) (fun v17 ev17 bv17 dv17 => ?_)
        refine xi_iaload (pc' := 31) (v := v17) kc_58_30 rfl A16 (by decide) rfl (xi_in (by decide) (by rw [hy16]; decide)) ev17 ?_
        refine xcps2 (α := Int32) (3 * v17) (fun v18 ev18 => ?_)
        have zv18 : v18.toInt = (3) * v17.toInt := by rw [← ev18]; exact (xz_mul (X := 3) (Y := v17.toInt) (by decide) rfl (by omega) (by omega)).trans (by omega)
        refine xi_imul (pc' := 32) (v := v18) kc_58_31 rfl ev18 ?_
        refine xcps2 (α := Int32) (x2 + v18) (fun v19 ev19 => ?_)
        have zv19 : v19.toInt = (x2.toInt + (3) * v17.toInt) := by rw [← ev19]; exact (xz_add (X := x2.toInt) (Y := (3) * v17.toInt) rfl zv18 (by omega) (by omega)).trans (by omega)
        refine xi_iadd (pc' := 33) (v := v19) kc_58_32 rfl ev19 ?_
        refine xi_istore_n (pc' := 34) (lv' := [(2, .int v19), (0, .ref 115), (1, .int 3), (3, .int 1)]) kc_58_33 rfl rfl (xm_lt ml_58 rfl) ?_
        refine xi_iload_n (pc' := 35) (x := 3) kc_58_34 rfl rfl ?_
        refine xi_iconst (pc' := 36) (v := 3) kc_58_35 rfl rfl ?_
        refine xi_imul (pc' := 37) (v := 9) kc_58_36 rfl rfl ?_
        refine xi_istore_n (pc' := 38) (lv' := [(1, .int 9), (2, .int v19), (0, .ref 115), (3, .int 1)]) kc_58_37 rfl rfl (xm_lt ml_58 rfl) ?_
        refine xi_iinc (pc' := 41) (x := 1) (v := 2) (lv' := [(3, .int 2), (1, .int 9), (2, .int v19), (0, .ref 115)]) kc_58_38 rfl rfl rfl rfl (xm_lt ml_58 rfl) ?_
        refine xi_goto (pc' := 15) kc_58_41 rfl ?_
        have zc2 : (2 : Int32).toInt = 2 := by decide
        have zc9 : (9 : Int32).toInt = 9 := by decide
        refine xw_lv (b := [(0, .ref 115), (1, .int 9), (2, .int v19), (3, .int 2)]) (lvS_cons (lvS_cons (lvS_cons (lvS_cons (lvS_nil (show ([3, 1, 2, 0] : List Nat).Nodup by decide)) rfl) rfl) rfl) rfl) ?_
        exact i2 v19 h (by omega) K (by omega)
    · intro x2 h b2 K hm
      refine xi_iload_n (pc' := 16) (x := 2) kc_58_15 rfl rfl ?_
      refine xi_aload_n (pc' := 17) (x := 115) kc_58_16 rfl rfl ?_
      refine xp_115 K.1 (fun u1 u2 u3 u4 u5 u6 u7 u8 u9 u10 u11 u12 u13 bu1 bu2 bu3 bu4 bu5 bu6 bu7 bu8 bu9 bu10 bu11 bu12 bu13 A14 => ?_)
      refine xi_getfield (pc' := 20) (v := .int u10) kc_58_17 rfl rfl rfl A14 rfl ?_
      by_cases c15 : u10.toInt ≤ 2
      · refine xi_cmt (pc' := 44) kc_58_20 rfl (xc_ge_t (X := 2) (Y := u10.toInt) (by decide) rfl (by omega)) ?_
        refine xi_iload_n (pc' := 45) (x := 9) kc_58_44 rfl rfl ?_
        refine xi_iconst (pc' := 46) (v := 1) kc_58_45 rfl rfl ?_
        refine xi_isub (pc' := 47) (v := 8) kc_58_46 rfl rfl ?_
        refine xi_istore_n (pc' := 48) (lv' := [(3, .int 8), (0, .ref 115), (1, .int 9), (2, .int x2)]) kc_58_47 rfl rfl (xm_lt ml_58 rfl) ?_
        have zc8 : (8 : Int32).toInt = 8 := by decide
        refine xw_lv (b := [(0, .ref 115), (2, .int x2), (3, .int 8)]) (lvS_cons (lvS_cons (lvS_cons (lvS_nil (show ([3, 0, 1, 2] : List Nat).Nodup by decide)) rfl) rfl) rfl) ?_
        exact i9 x2 8 h (by omega) (by omega) K (by omega)
      · refine xi_cmf (pc' := 23) kc_58_20 rfl (xc_ge_f (X := 2) (Y := u10.toInt) (by decide) rfl (by omega)) ?_
        refine xi_iload_n (pc' := 24) (x := x2) kc_58_23 rfl rfl ?_
        refine xi_iload_n (pc' := 25) (x := 9) kc_58_24 rfl rfl ?_
        refine xi_aload_n (pc' := 26) (x := 115) kc_58_25 rfl rfl ?_
        refine xi_getfield (pc' := 29) (v := .ref 154) kc_58_26 rfl rfl rfl A14 rfl ?_
        refine xi_iload_n (pc' := 30) (x := 2) kc_58_29 rfl rfl ?_
        refine xcps4 (xk_arr K.1 xD_154) (fun y16 A16 hy16 ry16 => ?_)
        refine xcps4 (xj_get hy16 ry16 (i := 2) (by decide) (by decide)) (fun v17 ev17 bv17 dv17 => ?_)
        refine xi_iaload (pc' := 31) (v := v17) kc_58_30 rfl A16 (by decide) rfl (xi_in (by decide) (by rw [hy16]; decide)) ev17 ?_
        refine xcps2 (α := Int32) (9 * v17) (fun v18 ev18 => ?_)
        have zv18 : v18.toInt = (9) * v17.toInt := by rw [← ev18]; exact (xz_mul (X := 9) (Y := v17.toInt) (by decide) rfl (by omega) (by omega)).trans (by omega)
        refine xi_imul (pc' := 32) (v := v18) kc_58_31 rfl ev18 ?_
        refine xcps2 (α := Int32) (x2 + v18) (fun v19 ev19 => ?_)
        have zv19 : v19.toInt = (x2.toInt + (9) * v17.toInt) := by rw [← ev19]; exact (xz_add (X := x2.toInt) (Y := (9) * v17.toInt) rfl zv18 (by omega) (by omega)).trans (by omega)
        refine xi_iadd (pc' := 33) (v := v19) kc_58_32 rfl ev19 ?_
        refine xi_istore_n (pc' := 34) (lv' := [(2, .int v19), (0, .ref 115), (1, .int 9), (3, .int 2)]) kc_58_33 rfl rfl (xm_lt ml_58 rfl) ?_
        refine xi_iload_n (pc' := 35) (x := 9) kc_58_34 rfl rfl ?_
        refine xi_iconst (pc' := 36) (v := 3) kc_58_35 rfl rfl ?_
        refine xi_imul (pc' := 37) (v := 27) kc_58_36 rfl rfl ?_
        refine xi_istore_n (pc' := 38) (lv' := [(1, .int 27), (2, .int v19), (0, .ref 115), (3, .int 2)]) kc_58_37 rfl rfl (xm_lt ml_58 rfl) ?_
        refine xi_iinc (pc' := 41) (x := 2) (v := 3) (lv' := [(3, .int 3), (1, .int 27), (2, .int v19), (0, .ref 115)]) kc_58_38 rfl rfl rfl rfl (xm_lt ml_58 rfl) ?_
        refine xi_goto (pc' := 15) kc_58_41 rfl ?_
        have zc3 : (3 : Int32).toInt = 3 := by decide
        have zc27 : (27 : Int32).toInt = 27 := by decide
        refine xw_lv (b := [(0, .ref 115), (1, .int 27), (2, .int v19), (3, .int 3)]) (lvS_cons (lvS_cons (lvS_cons (lvS_cons (lvS_nil (show ([3, 1, 2, 0] : List Nat).Nodup by decide)) rfl) rfl) rfl) rfl) ?_
        exact i3 v19 h (by omega) K (by omega)
    · intro x2 h b2 K hm
      refine xi_iload_n (pc' := 16) (x := 3) kc_58_15 rfl rfl ?_
      refine xi_aload_n (pc' := 17) (x := 115) kc_58_16 rfl rfl ?_
      refine xp_115 K.1 (fun u1 u2 u3 u4 u5 u6 u7 u8 u9 u10 u11 u12 u13 bu1 bu2 bu3 bu4 bu5 bu6 bu7 bu8 bu9 bu10 bu11 bu12 bu13 A14 => ?_)
      refine xi_getfield (pc' := 20) (v := .int u10) kc_58_17 rfl rfl rfl A14 rfl ?_
      by_cases c15 : u10.toInt ≤ 3
      · refine xi_cmt (pc' := 44) kc_58_20 rfl (xc_ge_t (X := 3) (Y := u10.toInt) (by decide) rfl (by omega)) ?_
        refine xi_iload_n (pc' := 45) (x := 27) kc_58_44 rfl rfl ?_
        refine xi_iconst (pc' := 46) (v := 1) kc_58_45 rfl rfl ?_
        refine xi_isub (pc' := 47) (v := 26) kc_58_46 rfl rfl ?_
        refine xi_istore_n (pc' := 48) (lv' := [(3, .int 26), (0, .ref 115), (1, .int 27), (2, .int x2)]) kc_58_47 rfl rfl (xm_lt ml_58 rfl) ?_
        have zc26 : (26 : Int32).toInt = 26 := by decide
        refine xw_lv (b := [(0, .ref 115), (2, .int x2), (3, .int 26)]) (lvS_cons (lvS_cons (lvS_cons (lvS_nil (show ([3, 0, 1, 2] : List Nat).Nodup by decide)) rfl) rfl) rfl) ?_
        exact i9 x2 26 h (by omega) (by omega) K (by omega)
      · refine xi_cmf (pc' := 23) kc_58_20 rfl (xc_ge_f (X := 3) (Y := u10.toInt) (by decide) rfl (by omega)) ?_
        refine xi_iload_n (pc' := 24) (x := x2) kc_58_23 rfl rfl ?_
        refine xi_iload_n (pc' := 25) (x := 27) kc_58_24 rfl rfl ?_
        refine xi_aload_n (pc' := 26) (x := 115) kc_58_25 rfl rfl ?_
        refine xi_getfield (pc' := 29) (v := .ref 154) kc_58_26 rfl rfl rfl A14 rfl ?_
        refine xi_iload_n (pc' := 30) (x := 3) kc_58_29 rfl rfl ?_
        refine xcps4 (xk_arr K.1 xD_154) (fun y16 A16 hy16 ry16 => ?_)
        refine xcps4 (xj_get hy16 ry16 (i := 3) (by decide) (by decide)) (fun v17 ev17 bv17 dv17 => ?_)
        refine xi_iaload (pc' := 31) (v := v17) kc_58_30 rfl A16 (by decide) rfl (xi_in (by decide) (by rw [hy16]; decide)) ev17 ?_
        refine xcps2 (α := Int32) (27 * v17) (fun v18 ev18 => ?_)
        have zv18 : v18.toInt = (27) * v17.toInt := by rw [← ev18]; exact (xz_mul (X := 27) (Y := v17.toInt) (by decide) rfl (by omega) (by omega)).trans (by omega)
        refine xi_imul (pc' := 32) (v := v18) kc_58_31 rfl ev18 ?_
        refine xcps2 (α := Int32) (x2 + v18) (fun v19 ev19 => ?_)
        have zv19 : v19.toInt = (x2.toInt + (27) * v17.toInt) := by rw [← ev19]; exact (xz_add (X := x2.toInt) (Y := (27) * v17.toInt) rfl zv18 (by omega) (by omega)).trans (by omega)
        refine xi_iadd (pc' := 33) (v := v19) kc_58_32 rfl ev19 ?_
        refine xi_istore_n (pc' := 34) (lv' := [(2, .int v19), (0, .ref 115), (1, .int 27), (3, .int 3)]) kc_58_33 rfl rfl (xm_lt ml_58 rfl) ?_
        refine xi_iload_n (pc' := 35) (x := 27) kc_58_34 rfl rfl ?_
        refine xi_iconst (pc' := 36) (v := 3) kc_58_35 rfl rfl ?_
        refine xi_imul (pc' := 37) (v := 81) kc_58_36 rfl rfl ?_
        refine xi_istore_n (pc' := 38) (lv' := [(1, .int 81), (2, .int v19), (0, .ref 115), (3, .int 3)]) kc_58_37 rfl rfl (xm_lt ml_58 rfl) ?_
        refine xi_iinc (pc' := 41) (x := 3) (v := 4) (lv' := [(3, .int 4), (1, .int 81), (2, .int v19), (0, .ref 115)]) kc_58_38 rfl rfl rfl rfl (xm_lt ml_58 rfl) ?_
        refine xi_goto (pc' := 15) kc_58_41 rfl ?_
        have zc4 : (4 : Int32).toInt = 4 := by decide
        have zc81 : (81 : Int32).toInt = 81 := by decide
        refine xw_lv (b := [(0, .ref 115), (1, .int 81), (2, .int v19), (3, .int 4)]) (lvS_cons (lvS_cons (lvS_cons (lvS_cons (lvS_nil (show ([3, 1, 2, 0] : List Nat).Nodup by decide)) rfl) rfl) rfl) rfl) ?_
        exact i4 v19 h (by omega) K (by omega)
    · intro x2 h b2 K hm
      refine xi_iload_n (pc' := 16) (x := 4) kc_58_15 rfl rfl ?_
      refine xi_aload_n (pc' := 17) (x := 115) kc_58_16 rfl rfl ?_
      refine xp_115 K.1 (fun u1 u2 u3 u4 u5 u6 u7 u8 u9 u10 u11 u12 u13 bu1 bu2 bu3 bu4 bu5 bu6 bu7 bu8 bu9 bu10 bu11 bu12 bu13 A14 => ?_)
      refine xi_getfield (pc' := 20) (v := .int u10) kc_58_17 rfl rfl rfl A14 rfl ?_
      by_cases c15 : u10.toInt ≤ 4
      · refine xi_cmt (pc' := 44) kc_58_20 rfl (xc_ge_t (X := 4) (Y := u10.toInt) (by decide) rfl (by omega)) ?_
        refine xi_iload_n (pc' := 45) (x := 81) kc_58_44 rfl rfl ?_
        refine xi_iconst (pc' := 46) (v := 1) kc_58_45 rfl rfl ?_
        refine xi_isub (pc' := 47) (v := 80) kc_58_46 rfl rfl ?_
        refine xi_istore_n (pc' := 48) (lv' := [(3, .int 80), (0, .ref 115), (1, .int 81), (2, .int x2)]) kc_58_47 rfl rfl (xm_lt ml_58 rfl) ?_
        have zc80 : (80 : Int32).toInt = 80 := by decide
        refine xw_lv (b := [(0, .ref 115), (2, .int x2), (3, .int 80)]) (lvS_cons (lvS_cons (lvS_cons (lvS_nil (show ([3, 0, 1, 2] : List Nat).Nodup by decide)) rfl) rfl) rfl) ?_
        exact i9 x2 80 h (by omega) (by omega) K (by omega)
      · refine xi_cmf (pc' := 23) kc_58_20 rfl (xc_ge_f (X := 4) (Y := u10.toInt) (by decide) rfl (by omega)) ?_
        refine xi_iload_n (pc' := 24) (x := x2) kc_58_23 rfl rfl ?_
        refine xi_iload_n (pc' := 25) (x := 81) kc_58_24 rfl rfl ?_
        refine xi_aload_n (pc' := 26) (x := 115) kc_58_25 rfl rfl ?_
        refine xi_getfield (pc' := 29) (v := .ref 154) kc_58_26 rfl rfl rfl A14 rfl ?_
        refine xi_iload_n (pc' := 30) (x := 4) kc_58_29 rfl rfl ?_
        refine xcps4 (xk_arr K.1 xD_154) (fun y16 A16 hy16 ry16 => ?_)
        refine xcps4 (xj_get hy16 ry16 (i := 4) (by decide) (by decide)) (fun v17 ev17 bv17 dv17 => ?_)
        refine xi_iaload (pc' := 31) (v := v17) kc_58_30 rfl A16 (by decide) rfl (xi_in (by decide) (by rw [hy16]; decide)) ev17 ?_
        refine xcps2 (α := Int32) (81 * v17) (fun v18 ev18 => ?_)
        have zv18 : v18.toInt = (81) * v17.toInt := by rw [← ev18]; exact (xz_mul (X := 81) (Y := v17.toInt) (by decide) rfl (by omega) (by omega)).trans (by omega)
        refine xi_imul (pc' := 32) (v := v18) kc_58_31 rfl ev18 ?_
        refine xcps2 (α := Int32) (x2 + v18) (fun v19 ev19 => ?_)
        have zv19 : v19.toInt = (x2.toInt + (81) * v17.toInt) := by rw [← ev19]; exact (xz_add (X := x2.toInt) (Y := (81) * v17.toInt) rfl zv18 (by omega) (by omega)).trans (by omega)
        refine xi_iadd (pc' := 33) (v := v19) kc_58_32 rfl ev19 ?_
        refine xi_istore_n (pc' := 34) (lv' := [(2, .int v19), (0, .ref 115), (1, .int 81), (3, .int 4)]) kc_58_33 rfl rfl (xm_lt ml_58 rfl) ?_
        refine xi_iload_n (pc' := 35) (x := 81) kc_58_34 rfl rfl ?_
        refine xi_iconst (pc' := 36) (v := 3) kc_58_35 rfl rfl ?_
        refine xi_imul (pc' := 37) (v := 243) kc_58_36 rfl rfl ?_
        refine xi_istore_n (pc' := 38) (lv' := [(1, .int 243), (2, .int v19), (0, .ref 115), (3, .int 4)]) kc_58_37 rfl rfl (xm_lt ml_58 rfl) ?_
        refine xi_iinc (pc' := 41) (x := 4) (v := 5) (lv' := [(3, .int 5), (1, .int 243), (2, .int v19), (0, .ref 115)]) kc_58_38 rfl rfl rfl rfl (xm_lt ml_58 rfl) ?_
        refine xi_goto (pc' := 15) kc_58_41 rfl ?_
        have zc5 : (5 : Int32).toInt = 5 := by decide
        have zc243 : (243 : Int32).toInt = 243 := by decide
        refine xw_lv (b := [(0, .ref 115), (1, .int 243), (2, .int v19), (3, .int 5)]) (lvS_cons (lvS_cons (lvS_cons (lvS_cons (lvS_nil (show ([3, 1, 2, 0] : List Nat).Nodup by decide)) rfl) rfl) rfl) rfl) ?_
        exact i5 v19 h (by omega) K (by omega)
    · intro x2 h b2 K hm
      refine xi_iload_n (pc' := 16) (x := 5) kc_58_15 rfl rfl ?_
      refine xi_aload_n (pc' := 17) (x := 115) kc_58_16 rfl rfl ?_
      refine xp_115 K.1 (fun u1 u2 u3 u4 u5 u6 u7 u8 u9 u10 u11 u12 u13 bu1 bu2 bu3 bu4 bu5 bu6 bu7 bu8 bu9 bu10 bu11 bu12 bu13 A14 => ?_)
      refine xi_getfield (pc' := 20) (v := .int u10) kc_58_17 rfl rfl rfl A14 rfl ?_
      by_cases c15 : u10.toInt ≤ 5
      · refine xi_cmt (pc' := 44) kc_58_20 rfl (xc_ge_t (X := 5) (Y := u10.toInt) (by decide) rfl (by omega)) ?_
        refine xi_iload_n (pc' := 45) (x := 243) kc_58_44 rfl rfl ?_
        refine xi_iconst (pc' := 46) (v := 1) kc_58_45 rfl rfl ?_
        refine xi_isub (pc' := 47) (v := 242) kc_58_46 rfl rfl ?_
        refine xi_istore_n (pc' := 48) (lv' := [(3, .int 242), (0, .ref 115), (1, .int 243), (2, .int x2)]) kc_58_47 rfl rfl (xm_lt ml_58 rfl) ?_
        have zc242 : (242 : Int32).toInt = 242 := by decide
        refine xw_lv (b := [(0, .ref 115), (2, .int x2), (3, .int 242)]) (lvS_cons (lvS_cons (lvS_cons (lvS_nil (show ([3, 0, 1, 2] : List Nat).Nodup by decide)) rfl) rfl) rfl) ?_
        exact i9 x2 242 h (by omega) (by omega) K (by omega)
      · refine xi_cmf (pc' := 23) kc_58_20 rfl (xc_ge_f (X := 5) (Y := u10.toInt) (by decide) rfl (by omega)) ?_
        refine xi_iload_n (pc' := 24) (x := x2) kc_58_23 rfl rfl ?_
        refine xi_iload_n (pc' := 25) (x := 243) kc_58_24 rfl rfl ?_
        refine xi_aload_n (pc' := 26) (x := 115) kc_58_25 rfl rfl ?_
        refine xi_getfield (pc' := 29) (v := .ref 154) kc_58_26 rfl rfl rfl A14 rfl ?_
        refine xi_iload_n (pc' := 30) (x := 5) kc_58_29 rfl rfl ?_
        refine xcps4 (xk_arr K.1 xD_154) (fun y16 A16 hy16 ry16 => ?_)
        refine xcps4 (xj_get hy16 ry16 (i := 5) (by decide) (by decide)) (fun v17 ev17 bv17 dv17 => ?_)
        refine xi_iaload (pc' := 31) (v := v17) kc_58_30 rfl A16 (by decide) rfl (xi_in (by decide) (by rw [hy16]; decide)) ev17 ?_
        refine xcps2 (α := Int32) (243 * v17) (fun v18 ev18 => ?_)
        have zv18 : v18.toInt = (243) * v17.toInt := by rw [← ev18]; exact (xz_mul (X := 243) (Y := v17.toInt) (by decide) rfl (by omega) (by omega)).trans (by omega)
        refine xi_imul (pc' := 32) (v := v18) kc_58_31 rfl ev18 ?_
        refine xcps2 (α := Int32) (x2 + v18) (fun v19 ev19 => ?_)
        have zv19 : v19.toInt = (x2.toInt + (243) * v17.toInt) := by rw [← ev19]; exact (xz_add (X := x2.toInt) (Y := (243) * v17.toInt) rfl zv18 (by omega) (by omega)).trans (by omega)
        refine xi_iadd (pc' := 33) (v := v19) kc_58_32 rfl ev19 ?_
        refine xi_istore_n (pc' := 34) (lv' := [(2, .int v19), (0, .ref 115), (1, .int 243), (3, .int 5)]) kc_58_33 rfl rfl (xm_lt ml_58 rfl) ?_
        refine xi_iload_n (pc' := 35) (x := 243) kc_58_34 rfl rfl ?_
        refine xi_iconst (pc' := 36) (v := 3) kc_58_35 rfl rfl ?_
        refine xi_imul (pc' := 37) (v := 729) kc_58_36 rfl rfl ?_
        refine xi_istore_n (pc' := 38) (lv' := [(1, .int 729), (2, .int v19), (0, .ref 115), (3, .int 5)]) kc_58_37 rfl rfl (xm_lt ml_58 rfl) ?_
        refine xi_iinc (pc' := 41) (x := 5) (v := 6) (lv' := [(3, .int 6), (1, .int 729), (2, .int v19), (0, .ref 115)]) kc_58_38 rfl rfl rfl rfl (xm_lt ml_58 rfl) ?_
        refine xi_goto (pc' := 15) kc_58_41 rfl ?_
        have zc6 : (6 : Int32).toInt = 6 := by decide
        have zc729 : (729 : Int32).toInt = 729 := by decide
        refine xw_lv (b := [(0, .ref 115), (1, .int 729), (2, .int v19), (3, .int 6)]) (lvS_cons (lvS_cons (lvS_cons (lvS_cons (lvS_nil (show ([3, 1, 2, 0] : List Nat).Nodup by decide)) rfl) rfl) rfl) rfl) ?_
        exact i6 v19 h (by omega) K (by omega)
    · intro x2 h b2 K hm
      refine xi_iload_n (pc' := 16) (x := 6) kc_58_15 rfl rfl ?_
      refine xi_aload_n (pc' := 17) (x := 115) kc_58_16 rfl rfl ?_
      refine xp_115 K.1 (fun u1 u2 u3 u4 u5 u6 u7 u8 u9 u10 u11 u12 u13 bu1 bu2 bu3 bu4 bu5 bu6 bu7 bu8 bu9 bu10 bu11 bu12 bu13 A14 => ?_)
      refine xi_getfield (pc' := 20) (v := .int u10) kc_58_17 rfl rfl rfl A14 rfl ?_
      by_cases c15 : u10.toInt ≤ 6
      · refine xi_cmt (pc' := 44) kc_58_20 rfl (xc_ge_t (X := 6) (Y := u10.toInt) (by decide) rfl (by omega)) ?_
        refine xi_iload_n (pc' := 45) (x := 729) kc_58_44 rfl rfl ?_
        refine xi_iconst (pc' := 46) (v := 1) kc_58_45 rfl rfl ?_
        refine xi_isub (pc' := 47) (v := 728) kc_58_46 rfl rfl ?_
        refine xi_istore_n (pc' := 48) (lv' := [(3, .int 728), (0, .ref 115), (1, .int 729), (2, .int x2)]) kc_58_47 rfl rfl (xm_lt ml_58 rfl) ?_
        have zc728 : (728 : Int32).toInt = 728 := by decide
        refine xw_lv (b := [(0, .ref 115), (2, .int x2), (3, .int 728)]) (lvS_cons (lvS_cons (lvS_cons (lvS_nil (show ([3, 0, 1, 2] : List Nat).Nodup by decide)) rfl) rfl) rfl) ?_
        exact i9 x2 728 h (by omega) (by omega) K (by omega)
      · refine xi_cmf (pc' := 23) kc_58_20 rfl (xc_ge_f (X := 6) (Y := u10.toInt) (by decide) rfl (by omega)) ?_
        refine xi_iload_n (pc' := 24) (x := x2) kc_58_23 rfl rfl ?_
        refine xi_iload_n (pc' := 25) (x := 729) kc_58_24 rfl rfl ?_
        refine xi_aload_n (pc' := 26) (x := 115) kc_58_25 rfl rfl ?_
        refine xi_getfield (pc' := 29) (v := .ref 154) kc_58_26 rfl rfl rfl A14 rfl ?_
        refine xi_iload_n (pc' := 30) (x := 6) kc_58_29 rfl rfl ?_
        refine xcps4 (xk_arr K.1 xD_154) (fun y16 A16 hy16 ry16 => ?_)
        refine xcps4 (xj_get hy16 ry16 (i := 6) (by decide) (by decide)) (fun v17 ev17 bv17 dv17 => ?_)
        refine xi_iaload (pc' := 31) (v := v17) kc_58_30 rfl A16 (by decide) rfl (xi_in (by decide) (by rw [hy16]; decide)) ev17 ?_
        refine xcps2 (α := Int32) (729 * v17) (fun v18 ev18 => ?_)
        have zv18 : v18.toInt = (729) * v17.toInt := by rw [← ev18]; exact (xz_mul (X := 729) (Y := v17.toInt) (by decide) rfl (by omega) (by omega)).trans (by omega)
        refine xi_imul (pc' := 32) (v := v18) kc_58_31 rfl ev18 ?_
        refine xcps2 (α := Int32) (x2 + v18) (fun v19 ev19 => ?_)
        have zv19 : v19.toInt = (x2.toInt + (729) * v17.toInt) := by rw [← ev19]; exact (xz_add (X := x2.toInt) (Y := (729) * v17.toInt) rfl zv18 (by omega) (by omega)).trans (by omega)
        refine xi_iadd (pc' := 33) (v := v19) kc_58_32 rfl ev19 ?_
        refine xi_istore_n (pc' := 34) (lv' := [(2, .int v19), (0, .ref 115), (1, .int 729), (3, .int 6)]) kc_58_33 rfl rfl (xm_lt ml_58 rfl) ?_
        refine xi_iload_n (pc' := 35) (x := 729) kc_58_34 rfl rfl ?_
        refine xi_iconst (pc' := 36) (v := 3) kc_58_35 rfl rfl ?_
        refine xi_imul (pc' := 37) (v := 2187) kc_58_36 rfl rfl ?_
        refine xi_istore_n (pc' := 38) (lv' := [(1, .int 2187), (2, .int v19), (0, .ref 115), (3, .int 6)]) kc_58_37 rfl rfl (xm_lt ml_58 rfl) ?_
        refine xi_iinc (pc' := 41) (x := 6) (v := 7) (lv' := [(3, .int 7), (1, .int 2187), (2, .int v19), (0, .ref 115)]) kc_58_38 rfl rfl rfl rfl (xm_lt ml_58 rfl) ?_
        refine xi_goto (pc' := 15) kc_58_41 rfl ?_
        have zc7 : (7 : Int32).toInt = 7 := by decide
        have zc2187 : (2187 : Int32).toInt = 2187 := by decide
        refine xw_lv (b := [(0, .ref 115), (1, .int 2187), (2, .int v19), (3, .int 7)]) (lvS_cons (lvS_cons (lvS_cons (lvS_cons (lvS_nil (show ([3, 1, 2, 0] : List Nat).Nodup by decide)) rfl) rfl) rfl) rfl) ?_
        exact i7 v19 h (by omega) K (by omega)
    · intro x2 h b2 K hm
      refine xi_iload_n (pc' := 16) (x := 7) kc_58_15 rfl rfl ?_
      refine xi_aload_n (pc' := 17) (x := 115) kc_58_16 rfl rfl ?_
      refine xp_115 K.1 (fun u1 u2 u3 u4 u5 u6 u7 u8 u9 u10 u11 u12 u13 bu1 bu2 bu3 bu4 bu5 bu6 bu7 bu8 bu9 bu10 bu11 bu12 bu13 A14 => ?_)
      refine xi_getfield (pc' := 20) (v := .int u10) kc_58_17 rfl rfl rfl A14 rfl ?_
      by_cases c15 : u10.toInt ≤ 7
      · refine xi_cmt (pc' := 44) kc_58_20 rfl (xc_ge_t (X := 7) (Y := u10.toInt) (by decide) rfl (by omega)) ?_
        refine xi_iload_n (pc' := 45) (x := 2187) kc_58_44 rfl rfl ?_
        refine xi_iconst (pc' := 46) (v := 1) kc_58_45 rfl rfl ?_
        refine xi_isub (pc' := 47) (v := 2186) kc_58_46 rfl rfl ?_
        refine xi_istore_n (pc' := 48) (lv' := [(3, .int 2186), (0, .ref 115), (1, .int 2187), (2, .int x2)]) kc_58_47 rfl rfl (xm_lt ml_58 rfl) ?_
        have zc2186 : (2186 : Int32).toInt = 2186 := by decide
        refine xw_lv (b := [(0, .ref 115), (2, .int x2), (3, .int 2186)]) (lvS_cons (lvS_cons (lvS_cons (lvS_nil (show ([3, 0, 1, 2] : List Nat).Nodup by decide)) rfl) rfl) rfl) ?_
        exact i9 x2 2186 h (by omega) (by omega) K (by omega)
      · refine xi_cmf (pc' := 23) kc_58_20 rfl (xc_ge_f (X := 7) (Y := u10.toInt) (by decide) rfl (by omega)) ?_
        refine xi_iload_n (pc' := 24) (x := x2) kc_58_23 rfl rfl ?_
        refine xi_iload_n (pc' := 25) (x := 2187) kc_58_24 rfl rfl ?_
        refine xi_aload_n (pc' := 26) (x := 115) kc_58_25 rfl rfl ?_
        refine xi_getfield (pc' := 29) (v := .ref 154) kc_58_26 rfl rfl rfl A14 rfl ?_
        refine xi_iload_n (pc' := 30) (x := 7) kc_58_29 rfl rfl ?_
        refine xcps4 (xk_arr K.1 xD_154) (fun y16 A16 hy16 ry16 => ?_)
        refine xcps4 (xj_get hy16 ry16 (i := 7) (by decide) (by decide)) (fun v17 ev17 bv17 dv17 => ?_)
        refine xi_iaload (pc' := 31) (v := v17) kc_58_30 rfl A16 (by decide) rfl (xi_in (by decide) (by rw [hy16]; decide)) ev17 ?_
        refine xcps2 (α := Int32) (2187 * v17) (fun v18 ev18 => ?_)
        have zv18 : v18.toInt = (2187) * v17.toInt := by rw [← ev18]; exact (xz_mul (X := 2187) (Y := v17.toInt) (by decide) rfl (by omega) (by omega)).trans (by omega)
        refine xi_imul (pc' := 32) (v := v18) kc_58_31 rfl ev18 ?_
        refine xcps2 (α := Int32) (x2 + v18) (fun v19 ev19 => ?_)
        have zv19 : v19.toInt = (x2.toInt + (2187) * v17.toInt) := by rw [← ev19]; exact (xz_add (X := x2.toInt) (Y := (2187) * v17.toInt) rfl zv18 (by omega) (by omega)).trans (by omega)
        refine xi_iadd (pc' := 33) (v := v19) kc_58_32 rfl ev19 ?_
        refine xi_istore_n (pc' := 34) (lv' := [(2, .int v19), (0, .ref 115), (1, .int 2187), (3, .int 7)]) kc_58_33 rfl rfl (xm_lt ml_58 rfl) ?_
        refine xi_iload_n (pc' := 35) (x := 2187) kc_58_34 rfl rfl ?_
        refine xi_iconst (pc' := 36) (v := 3) kc_58_35 rfl rfl ?_
        refine xi_imul (pc' := 37) (v := 6561) kc_58_36 rfl rfl ?_
        refine xi_istore_n (pc' := 38) (lv' := [(1, .int 6561), (2, .int v19), (0, .ref 115), (3, .int 7)]) kc_58_37 rfl rfl (xm_lt ml_58 rfl) ?_
        refine xi_iinc (pc' := 41) (x := 7) (v := 8) (lv' := [(3, .int 8), (1, .int 6561), (2, .int v19), (0, .ref 115)]) kc_58_38 rfl rfl rfl rfl (xm_lt ml_58 rfl) ?_
        refine xi_goto (pc' := 15) kc_58_41 rfl ?_
        have zc8 : (8 : Int32).toInt = 8 := by decide
        have zc6561 : (6561 : Int32).toInt = 6561 := by decide
        refine xw_lv (b := [(0, .ref 115), (1, .int 6561), (2, .int v19), (3, .int 8)]) (lvS_cons (lvS_cons (lvS_cons (lvS_cons (lvS_nil (show ([3, 1, 2, 0] : List Nat).Nodup by decide)) rfl) rfl) rfl) rfl) ?_
        exact i8 v19 h (by omega) K (by omega)
    · intro x2 h b2 K hm
      refine xi_iload_n (pc' := 16) (x := 8) kc_58_15 rfl rfl ?_
      refine xi_aload_n (pc' := 17) (x := 115) kc_58_16 rfl rfl ?_
      refine xp_115 K.1 (fun u1 u2 u3 u4 u5 u6 u7 u8 u9 u10 u11 u12 u13 bu1 bu2 bu3 bu4 bu5 bu6 bu7 bu8 bu9 bu10 bu11 bu12 bu13 A14 => ?_)
      refine xi_getfield (pc' := 20) (v := .int u10) kc_58_17 rfl rfl rfl A14 rfl ?_
      refine xi_cmt (pc' := 44) kc_58_20 rfl (xc_ge_t (X := 8) (Y := u10.toInt) (by decide) rfl (by omega)) ?_
      refine xi_iload_n (pc' := 45) (x := 6561) kc_58_44 rfl rfl ?_
      refine xi_iconst (pc' := 46) (v := 1) kc_58_45 rfl rfl ?_
      refine xi_isub (pc' := 47) (v := 6560) kc_58_46 rfl rfl ?_
      refine xi_istore_n (pc' := 48) (lv' := [(3, .int 6560), (0, .ref 115), (1, .int 6561), (2, .int x2)]) kc_58_47 rfl rfl (xm_lt ml_58 rfl) ?_
      have zc6560 : (6560 : Int32).toInt = 6560 := by decide
      refine xw_lv (b := [(0, .ref 115), (2, .int x2), (3, .int 6560)]) (lvS_cons (lvS_cons (lvS_cons (lvS_nil (show ([3, 0, 1, 2] : List Nat).Nodup by decide)) rfl) rfl) rfl) ?_
      exact i9 x2 6560 h (by omega) (by omega) K (by omega)
    · intro x2 x3 h b2 b3 K hm
      refine xi_iload_n (pc' := 49) (x := x3) kc_58_48 rfl rfl ?_
      refine xi_iload_n (pc' := 50) (x := x2) kc_58_49 rfl rfl ?_
      by_cases c1 : x3.toInt < x2.toInt
      · refine xi_cmt (pc' := 194) kc_58_50 rfl (xc_lt_t (X := x3.toInt) (Y := x2.toInt) rfl rfl (by omega)) ?_
        refine xi_aload_n (pc' := 195) (x := 115) kc_58_194 rfl rfl ?_
        refine xp_115 K.1 (fun u2 u3 u4 u5 u6 u7 u8 u9 u10 u11 u12 u13 u14 bu2 bu3 bu4 bu5 bu6 bu7 bu8 bu9 bu10 bu11 bu12 bu13 bu14 A15 => ?_)
        refine xi_getfield (pc' := 198) (v := .ref 155) kc_58_195 rfl rfl rfl A15 rfl ?_
        refine xi_iload_n (pc' := 199) (x := x2) kc_58_198 rfl rfl ?_
        refine xcps4 (xk_arr K.1 xD_155) (fun y16 A16 hy16 ry16 => ?_)
        refine xcps4 (xj_get hy16 ry16 (i := x2) (by omega) (by omega)) (fun v17 ev17 bv17 dv17 => ?_)
        refine xi_iaload (pc' := 200) (v := v17) kc_58_199 rfl A16 (by decide) rfl (xi_in (by omega) (by rw [hy16]; omega)) ev17 ?_
        refine xi_ireturn kc_58_200 mr_58 rfl ?_
        exact kk v17 h K
      · refine xi_cmf (pc' := 53) kc_58_50 rfl (xc_lt_f (X := x3.toInt) (Y := x2.toInt) rfl rfl (by omega)) ?_
        refine xi_iconst (pc' := 54) (v := (-1)) kc_58_53 rfl rfl ?_
        refine xi_istore (pc' := 56) (lv' := [(4, .int (-1)), (0, .ref 115), (2, .int x2), (3, .int x3)]) kc_58_54 rfl rfl (xm_lt ml_58 rfl) ?_
        refine xi_iconst (pc' := 57) (v := 1) kc_58_56 rfl rfl ?_
        refine xi_istore (pc' := 59) (lv' := [(5, .int 1), (4, .int (-1)), (0, .ref 115), (2, .int x2), (3, .int x3)]) kc_58_57 rfl rfl (xm_lt ml_58 rfl) ?_
        refine xi_iconst (pc' := 60) (v := 0) kc_58_59 rfl rfl ?_
        refine xi_istore (pc' := 62) (lv' := [(6, .int 0), (5, .int 1), (4, .int (-1)), (0, .ref 115), (2, .int x2), (3, .int x3)]) kc_58_60 rfl rfl (xm_lt ml_58 rfl) ?_
        have zcm1 : ((-1) : Int32).toInt = (-1) := by decide
        have zc0 : (0 : Int32).toInt = 0 := by decide
        have zc1 : (1 : Int32).toInt = 1 := by decide
        refine xw_lv (b := [(0, .ref 115), (2, .int x2), (3, .int x3), (4, .int (-1)), (5, .int 1), (6, .int 0)]) (lvS_cons (lvS_cons (lvS_cons (lvS_cons (lvS_cons (lvS_cons (lvS_nil (show ([6, 5, 4, 0, 2, 3] : List Nat).Nodup by decide)) rfl) rfl) rfl) rfl) rfl) rfl) ?_
        exact i10 x2 x3 (-1) h (by omega) (by omega) (by omega) K (by omega)
    · intro x2 x3 x4 h b2 b3 b4 K hm
      refine xi_iload (pc' := 64) (x := 0) kc_58_62 rfl rfl ?_
      refine xi_aload_n (pc' := 65) (x := 115) kc_58_64 rfl rfl ?_
      refine xp_115 K.1 (fun u1 u2 u3 u4 u5 u6 u7 u8 u9 u10 u11 u12 u13 bu1 bu2 bu3 bu4 bu5 bu6 bu7 bu8 bu9 bu10 bu11 bu12 bu13 A14 => ?_)
      refine xi_getfield (pc' := 68) (v := .int u10) kc_58_65 rfl rfl rfl A14 rfl ?_
      by_cases c15 : u10.toInt ≤ 0
      · refine xi_cmt (pc' := 171) kc_58_68 rfl (xc_ge_t (X := 0) (Y := u10.toInt) (by decide) rfl (by omega)) ?_
        refine xi_aload_n (pc' := 172) (x := 115) kc_58_171 rfl rfl ?_
        refine xi_getfield (pc' := 175) (v := .ref 155) kc_58_172 rfl rfl rfl A14 rfl ?_
        refine xi_iload_n (pc' := 176) (x := x3) kc_58_175 rfl rfl ?_
        refine xi_iload (pc' := 178) (x := x4) kc_58_176 rfl rfl ?_
        refine xi_iff (pc' := 181) kc_58_178 rfl (xc_ge_f (X := x4.toInt) (Y := 0) rfl (by decide) (by omega)) ?_
        refine xi_iconst (pc' := 182) (v := 0) kc_58_181 rfl rfl ?_
        refine xi_goto (pc' := 187) kc_58_182 rfl ?_
        refine xcps4 (xk_arr K.1 xD_155) (fun y16 A16 hy16 ry16 => ?_)
        refine xcps4 (xj_set (v := 0) hy16 ry16 x3 (by first | omega | decide) (by first | omega | decide)) (fun y17 s17 hy17 ry17 => ?_)
        refine xi_iastore (pc' := 188) (x' := y17) kc_58_187 rfl A16 rfl (xi_in (by omega) (by rw [hy16]; omega)) s17 (fun hh17 eh17 => ?_)
        have K18 := xk_pa K (xk_wa rfl) xD_155 hy17 ry17 eh17
        refine xcps2 (α := Int32) (x3 + (-1)) (fun v19 ev19 => ?_)
        have zv19 : v19.toInt = (x3.toInt + (-1)) := by rw [← ev19]; exact (xz_add (X := x3.toInt) (Y := (-1)) rfl (by decide) (by omega) (by omega)).trans (by omega)
        refine xi_iinc (pc' := 191) (x := x3) (v := v19) (lv' := [(3, .int v19), (0, .ref 115), (2, .int x2), (4, .int x4), (5, .int 1), (6, .int 0)]) kc_58_188 rfl rfl ev19 rfl (xm_lt ml_58 rfl) ?_
        refine xi_goto (pc' := 48) kc_58_191 rfl ?_
        refine xw_lv (b := [(0, .ref 115), (2, .int x2), (3, .int v19)]) (lvS_cons (lvS_cons (lvS_cons (lvS_nil (show ([3, 0, 2, 4, 5, 6] : List Nat).Nodup by decide)) rfl) rfl) rfl) ?_
        exact i9 x2 v19 hh17 (by omega) (by omega) K18 (by omega)
      · refine xi_cmf (pc' := 71) kc_58_68 rfl (xc_ge_f (X := 0) (Y := u10.toInt) (by decide) rfl (by omega)) ?_
        refine xi_iload_n (pc' := 72) (x := x3) kc_58_71 rfl rfl ?_
        refine xi_iload (pc' := 74) (x := 1) kc_58_72 rfl rfl ?_
        refine xcps2 (α := Int32) (x3 / 1) (fun v20 ev20 => ?_)
        have dv20 : v20.toInt = x3.toInt / 1 := by rw [← ev20]; exact xz_dive (X := x3.toInt) (Y := 1) rfl (by decide) (by omega) (by decide)
        have bv20 : 0 ≤ v20.toInt ∧ v20.toInt ≤ 6560 := by omega
        refine xi_idiv (pc' := 75) (v := v20) kc_58_74 rfl ev20 (by decide) ?_
        refine xi_iconst (pc' := 76) (v := 3) kc_58_75 rfl rfl ?_
        refine xcps2 (α := Int32) (v20 - v20 / 3 * 3) (fun v21 ev21 => ?_)
        have dv21 : v21.toInt = v20.toInt % 3 := by rw [← ev21]; exact xz_reme (X := v20.toInt) (Y := 3) rfl (by decide) (by omega) (by decide)
        have bv21 : 0 ≤ v21.toInt ∧ v21.toInt ≤ 2 := by omega
        refine xi_irem (pc' := 77) (v := v21) kc_58_76 rfl ev21 (by decide) ?_
        by_cases c22 : v21.toInt = 0
        · refine xi_iff (pc' := 80) kc_58_77 rfl (xc_ne_f (X := v21.toInt) (Y := 0) rfl (by decide) (by omega)) ?_
          refine xi_aload_n (pc' := 81) (x := 115) kc_58_80 rfl rfl ?_
          refine xi_iload_n (pc' := 82) (x := x3) kc_58_81 rfl rfl ?_
          refine xi_iload (pc' := 84) (x := 0) kc_58_82 rfl rfl ?_
          refine xi_virtual (mj := 59) (as := [.int x3, .int 0]) (st1 := []) (lv0 := [(0, .ref 115), (1, .int x3), (2, .int 0)]) kc_58_84 rfl rfl rfl rfl rfl A14 (Nat.le_of_ble_eq_true rfl) (hJ _ _ _ _ (by decide)) (xm_le ml_59 rfl) rfl ?_
          have zc0 : (0 : Int32).toInt = 0 := by decide
          refine mt_59_0 hJ hov1 hov2 (d := d + 3) (x1 := x3) (x2 := 0) K.1 (by first | omega | decide) (by first | omega | decide) (fun r23 hh24 br23 K25 => ?_)
          have K26 := xk_tr K K25 rfl
          refine xp_115 K26.1 (fun u27 u28 u29 u30 u31 u32 u33 u34 u35 u36 u37 u38 u39 bu27 bu28 bu29 bu30 bu31 bu32 bu33 bu34 bu35 bu36 bu37 bu38 bu39 A40 => ?_)
          have e41 : u2 = u28 := xk_eqi (q := 1) K25 rfl A14 A40 rfl rfl
          subst e41
          have e42 : u5 = u31 := xk_eqi (q := 23) K25 rfl A14 A40 rfl rfl
          subst e42
          show xw J ov (d + 7) 58 (87, [(0, .ref 115), (2, .int x2), (3, .int x3), (4, .int x4), (5, .int 1), (6, .int 0)], [.int r23], hh24) _
          by_cases c43 : r23.toInt = 0
          · refine xi_ift (pc' := 159) kc_58_87 rfl (xc_eq_t (X := r23.toInt) (Y := 0) rfl (by decide) (by omega)) ?_
            refine xi_iload (pc' := 161) (x := 1) kc_58_159 rfl rfl ?_
            refine xi_iconst (pc' := 162) (v := 3) kc_58_161 rfl rfl ?_
            refine xi_imul (pc' := 163) (v := 3) kc_58_162 rfl rfl ?_
            refine xi_istore (pc' := 165) (lv' := [(5, .int 3), (0, .ref 115), (2, .int x2), (3, .int x3), (4, .int x4), (6, .int 0)]) kc_58_163 rfl rfl (xm_lt ml_58 rfl) ?_
            refine xi_iinc (pc' := 168) (x := 0) (v := 1) (lv' := [(6, .int 1), (5, .int 3), (0, .ref 115), (2, .int x2), (3, .int x3), (4, .int x4)]) kc_58_165 rfl rfl rfl rfl (xm_lt ml_58 rfl) ?_
            refine xi_goto (pc' := 62) kc_58_168 rfl ?_
            have zc1 : (1 : Int32).toInt = 1 := by decide
            have zc3 : (3 : Int32).toInt = 3 := by decide
            refine xw_lv (b := [(0, .ref 115), (2, .int x2), (3, .int x3), (4, .int x4), (5, .int 3), (6, .int 1)]) (lvS_cons (lvS_cons (lvS_cons (lvS_cons (lvS_cons (lvS_cons (lvS_nil (show ([6, 5, 0, 2, 3, 4] : List Nat).Nodup by decide)) rfl) rfl) rfl) rfl) rfl) rfl) ?_
            exact i11 x2 x3 x4 hh24 (by omega) (by omega) K26 (by omega)
          · refine xi_iff (pc' := 90) kc_58_87 rfl (xc_eq_f (X := r23.toInt) (Y := 0) rfl (by decide) (by omega)) ?_
            refine xi_aload_n (pc' := 91) (x := 115) kc_58_90 rfl rfl ?_
            refine xi_getfield (pc' := 94) (v := .ref 155) kc_58_91 rfl rfl rfl A40 rfl ?_
            refine xi_iload_n (pc' := 95) (x := x3) kc_58_94 rfl rfl ?_
            refine xi_iload (pc' := 97) (x := 1) kc_58_95 rfl rfl ?_
            refine xcps2 (α := Int32) (x3 + 1) (fun v44 ev44 => ?_)
            have zv44 : v44.toInt = (x3.toInt + 1) := by rw [← ev44]; exact (xz_add (X := x3.toInt) (Y := 1) rfl (by decide) (by omega) (by omega)).trans (by omega)
            refine xi_iadd (pc' := 98) (v := v44) kc_58_97 rfl ev44 ?_
            have t45 : (-1) ≤ x3.toInt ∧ x3.toInt ≤ 6559 := by omega
            refine xcps4 (xk_arr K26.1 xD_155) (fun y46 A46 hy46 ry46 => ?_)
            refine xcps4 (xj_get hy46 ry46 (i := v44) (by rw [zv44]; omega) (by rw [zv44]; omega)) (fun v47 ev47 bv47 dv47 => ?_)
            refine xi_iaload (pc' := 99) (v := v47) kc_58_98 rfl A46 (by decide) rfl (xi_in (by rw [zv44]; omega) (by rw [hy46]; rw [zv44]; omega)) ev47 ?_
            refine xi_istore (pc' := 101) (lv' := [(7, .int v47), (0, .ref 115), (2, .int x2), (3, .int x3), (4, .int x4), (5, .int 1), (6, .int 0)]) kc_58_99 rfl rfl (xm_lt ml_58 rfl) ?_
            refine xi_aload_n (pc' := 102) (x := 115) kc_58_101 rfl rfl ?_
            refine xi_getfield (pc' := 105) (v := .ref 155) kc_58_102 rfl rfl rfl A40 rfl ?_
            refine xi_iload_n (pc' := 106) (x := x3) kc_58_105 rfl rfl ?_
            refine xi_iconst (pc' := 107) (v := 2) kc_58_106 rfl rfl ?_
            refine xi_iload (pc' := 109) (x := 1) kc_58_107 rfl rfl ?_
            refine xi_imul (pc' := 110) (v := 2) kc_58_109 rfl rfl ?_
            refine xcps2 (α := Int32) (x3 + 2) (fun v48 ev48 => ?_)
            have zv48 : v48.toInt = (x3.toInt + 2) := by rw [← ev48]; exact (xz_add (X := x3.toInt) (Y := 2) rfl (by decide) (by omega) (by omega)).trans (by omega)
            refine xi_iadd (pc' := 111) (v := v48) kc_58_110 rfl ev48 ?_
            have t49 : (-2) ≤ x3.toInt ∧ x3.toInt ≤ 6558 := by omega
            refine xcps4 (xj_get hy46 ry46 (i := v48) (by rw [zv48]; omega) (by rw [zv48]; omega)) (fun v50 ev50 bv50 dv50 => ?_)
            refine xi_iaload (pc' := 112) (v := v50) kc_58_111 rfl A46 (by decide) rfl (xi_in (by rw [zv48]; omega) (by rw [hy46]; rw [zv48]; omega)) ev50 ?_
            refine xi_istore (pc' := 114) (lv' := [(8, .int v50), (7, .int v47), (0, .ref 115), (2, .int x2), (3, .int x3), (4, .int x4), (5, .int 1), (6, .int 0)]) kc_58_112 rfl rfl (xm_lt ml_58 rfl) ?_
            refine xi_aload_n (pc' := 115) (x := 115) kc_58_114 rfl rfl ?_
            refine xi_getfield (pc' := 118) (v := .ref 153) kc_58_115 rfl rfl rfl A40 rfl ?_
            refine xi_iload (pc' := 120) (x := 0) kc_58_118 rfl rfl ?_
            refine xcps4 (xk_arr K26.1 xD_153) (fun y51 A51 hy51 ry51 => ?_)
            refine xcps4 (xj_get hy51 ry51 (i := 0) (by decide) (by decide)) (fun v52 ev52 bv52 dv52 => ?_)
            refine xi_iaload (pc' := 121) (v := v52) kc_58_120 rfl A51 (by decide) rfl (xi_in (by decide) (by rw [hy51]; decide)) ev52 ?_
            refine xi_iload (pc' := 123) (x := v47) kc_58_121 rfl rfl ?_
            refine xi_iload (pc' := 125) (x := v50) kc_58_123 rfl rfl ?_
            by_cases c53 : v47.toInt ≤ v50.toInt
            · refine xi_cmt (pc' := 133) kc_58_125 rfl (xc_le_t (X := v47.toInt) (Y := v50.toInt) rfl rfl (by omega)) ?_
              refine xi_iload (pc' := 135) (x := v50) kc_58_133 rfl rfl ?_
              refine xcps2 (α := Int32) ((v52 : Int32) + v50) (fun v54 ev54 => ?_)
              have rv54 := xc_rng v54
              refine xi_iadd (pc' := 136) (v := v54) kc_58_135 rfl ev54 ?_
              refine xi_istore (pc' := 138) (lv' := [(9, .int v54), (8, .int v50), (7, .int v47), (0, .ref 115), (2, .int x2), (3, .int x3), (4, .int x4), (5, .int 1), (6, .int 0)]) kc_58_136 rfl rfl (xm_lt ml_58 rfl) ?_
              refine xi_iload (pc' := 140) (x := x4) kc_58_138 rfl rfl ?_
              refine xi_ift (pc' := 150) kc_58_140 rfl (xc_lt_t (X := x4.toInt) (Y := 0) rfl (by decide) (by omega)) ?_
              refine xi_iload (pc' := 152) (x := v54) kc_58_150 rfl rfl ?_
              refine xi_goto (pc' := 157) kc_58_152 rfl ?_
              refine xi_istore (pc' := 159) (lv' := [(4, .int v54), (9, .int v54), (8, .int v50), (7, .int v47), (0, .ref 115), (2, .int x2), (3, .int x3), (5, .int 1), (6, .int 0)]) kc_58_157 rfl rfl (xm_lt ml_58 rfl) ?_
              refine xi_iload (pc' := 161) (x := 1) kc_58_159 rfl rfl ?_
              refine xi_iconst (pc' := 162) (v := 3) kc_58_161 rfl rfl ?_
              refine xi_imul (pc' := 163) (v := 3) kc_58_162 rfl rfl ?_
              refine xi_istore (pc' := 165) (lv' := [(5, .int 3), (4, .int v54), (9, .int v54), (8, .int v50), (7, .int v47), (0, .ref 115), (2, .int x2), (3, .int x3), (6, .int 0)]) kc_58_163 rfl rfl (xm_lt ml_58 rfl) ?_
              refine xi_iinc (pc' := 168) (x := 0) (v := 1) (lv' := [(6, .int 1), (5, .int 3), (4, .int v54), (9, .int v54), (8, .int v50), (7, .int v47), (0, .ref 115), (2, .int x2), (3, .int x3)]) kc_58_165 rfl rfl rfl rfl (xm_lt ml_58 rfl) ?_
              refine xi_goto (pc' := 62) kc_58_168 rfl ?_
              have zc1 : (1 : Int32).toInt = 1 := by decide
              have zc3 : (3 : Int32).toInt = 3 := by decide
              refine xw_lv (b := [(0, .ref 115), (2, .int x2), (3, .int x3), (4, .int v54), (5, .int 3), (6, .int 1)]) (lvS_cons (lvS_cons (lvS_cons (lvS_cons (lvS_cons (lvS_cons (lvS_nil (show ([6, 5, 4, 9, 8, 7, 0, 2, 3] : List Nat).Nodup by decide)) rfl) rfl) rfl) rfl) rfl) rfl) ?_
              exact i11 x2 x3 v54 hh24 (by omega) (by omega) K26 (by omega)
            · refine xi_cmf (pc' := 128) kc_58_125 rfl (xc_le_f (X := v47.toInt) (Y := v50.toInt) rfl rfl (by omega)) ?_
              refine xi_iload (pc' := 130) (x := v47) kc_58_128 rfl rfl ?_
              refine xi_goto (pc' := 135) kc_58_130 rfl ?_
              refine xcps2 (α := Int32) ((v52 : Int32) + v47) (fun v55 ev55 => ?_)
              have rv55 := xc_rng v55
              refine xi_iadd (pc' := 136) (v := v55) kc_58_135 rfl ev55 ?_
              refine xi_istore (pc' := 138) (lv' := [(9, .int v55), (8, .int v50), (7, .int v47), (0, .ref 115), (2, .int x2), (3, .int x3), (4, .int x4), (5, .int 1), (6, .int 0)]) kc_58_136 rfl rfl (xm_lt ml_58 rfl) ?_
              refine xi_iload (pc' := 140) (x := x4) kc_58_138 rfl rfl ?_
              refine xi_ift (pc' := 150) kc_58_140 rfl (xc_lt_t (X := x4.toInt) (Y := 0) rfl (by decide) (by omega)) ?_
              refine xi_iload (pc' := 152) (x := v55) kc_58_150 rfl rfl ?_
              refine xi_goto (pc' := 157) kc_58_152 rfl ?_
              refine xi_istore (pc' := 159) (lv' := [(4, .int v55), (9, .int v55), (8, .int v50), (7, .int v47), (0, .ref 115), (2, .int x2), (3, .int x3), (5, .int 1), (6, .int 0)]) kc_58_157 rfl rfl (xm_lt ml_58 rfl) ?_
              refine xi_iload (pc' := 161) (x := 1) kc_58_159 rfl rfl ?_
              refine xi_iconst (pc' := 162) (v := 3) kc_58_161 rfl rfl ?_
              refine xi_imul (pc' := 163) (v := 3) kc_58_162 rfl rfl ?_
              refine xi_istore (pc' := 165) (lv' := [(5, .int 3), (4, .int v55), (9, .int v55), (8, .int v50), (7, .int v47), (0, .ref 115), (2, .int x2), (3, .int x3), (6, .int 0)]) kc_58_163 rfl rfl (xm_lt ml_58 rfl) ?_
              refine xi_iinc (pc' := 168) (x := 0) (v := 1) (lv' := [(6, .int 1), (5, .int 3), (4, .int v55), (9, .int v55), (8, .int v50), (7, .int v47), (0, .ref 115), (2, .int x2), (3, .int x3)]) kc_58_165 rfl rfl rfl rfl (xm_lt ml_58 rfl) ?_
              refine xi_goto (pc' := 62) kc_58_168 rfl ?_
              have zc1 : (1 : Int32).toInt = 1 := by decide
              have zc3 : (3 : Int32).toInt = 3 := by decide
              refine xw_lv (b := [(0, .ref 115), (2, .int x2), (3, .int x3), (4, .int v55), (5, .int 3), (6, .int 1)]) (lvS_cons (lvS_cons (lvS_cons (lvS_cons (lvS_cons (lvS_cons (lvS_nil (show ([6, 5, 4, 9, 8, 7, 0, 2, 3] : List Nat).Nodup by decide)) rfl) rfl) rfl) rfl) rfl) rfl) ?_
              exact i11 x2 x3 v55 hh24 (by omega) (by omega) K26 (by omega)
        · refine xi_ift (pc' := 159) kc_58_77 rfl (xc_ne_t (X := v21.toInt) (Y := 0) rfl (by decide) (by omega)) ?_
          refine xi_iload (pc' := 161) (x := 1) kc_58_159 rfl rfl ?_
          refine xi_iconst (pc' := 162) (v := 3) kc_58_161 rfl rfl ?_
          refine xi_imul (pc' := 163) (v := 3) kc_58_162 rfl rfl ?_
          refine xi_istore (pc' := 165) (lv' := [(5, .int 3), (0, .ref 115), (2, .int x2), (3, .int x3), (4, .int x4), (6, .int 0)]) kc_58_163 rfl rfl (xm_lt ml_58 rfl) ?_
          refine xi_iinc (pc' := 168) (x := 0) (v := 1) (lv' := [(6, .int 1), (5, .int 3), (0, .ref 115), (2, .int x2), (3, .int x3), (4, .int x4)]) kc_58_165 rfl rfl rfl rfl (xm_lt ml_58 rfl) ?_
          refine xi_goto (pc' := 62) kc_58_168 rfl ?_
          have zc1 : (1 : Int32).toInt = 1 := by decide
          have zc3 : (3 : Int32).toInt = 3 := by decide
          refine xw_lv (b := [(0, .ref 115), (2, .int x2), (3, .int x3), (4, .int x4), (5, .int 3), (6, .int 1)]) (lvS_cons (lvS_cons (lvS_cons (lvS_cons (lvS_cons (lvS_cons (lvS_nil (show ([6, 5, 0, 2, 3, 4] : List Nat).Nodup by decide)) rfl) rfl) rfl) rfl) rfl) rfl) ?_
          exact i11 x2 x3 x4 h (by omega) (by omega) K (by omega)
    · intro x2 x3 x4 h b2 b3 K hm
      have rx4 := xc_rng x4
      refine xi_iload (pc' := 64) (x := 1) kc_58_62 rfl rfl ?_
      refine xi_aload_n (pc' := 65) (x := 115) kc_58_64 rfl rfl ?_
      refine xp_115 K.1 (fun u1 u2 u3 u4 u5 u6 u7 u8 u9 u10 u11 u12 u13 bu1 bu2 bu3 bu4 bu5 bu6 bu7 bu8 bu9 bu10 bu11 bu12 bu13 A14 => ?_)
      refine xi_getfield (pc' := 68) (v := .int u10) kc_58_65 rfl rfl rfl A14 rfl ?_
      by_cases c15 : u10.toInt ≤ 1
      · refine xi_cmt (pc' := 171) kc_58_68 rfl (xc_ge_t (X := 1) (Y := u10.toInt) (by decide) rfl (by omega)) ?_
        refine xi_aload_n (pc' := 172) (x := 115) kc_58_171 rfl rfl ?_
        refine xi_getfield (pc' := 175) (v := .ref 155) kc_58_172 rfl rfl rfl A14 rfl ?_
        refine xi_iload_n (pc' := 176) (x := x3) kc_58_175 rfl rfl ?_
        refine xi_iload (pc' := 178) (x := x4) kc_58_176 rfl rfl ?_
        by_cases c16 : 0 ≤ x4.toInt
        · refine xi_ift (pc' := 185) kc_58_178 rfl (xc_ge_t (X := x4.toInt) (Y := 0) rfl (by decide) (by omega)) ?_
          refine xi_iload (pc' := 187) (x := x4) kc_58_185 rfl rfl ?_
          refine xcps4 (xk_arr K.1 xD_155) (fun y17 A17 hy17 ry17 => ?_)
          refine xcps4 (xj_set (v := x4) hy17 ry17 x3 (by first | omega | decide) (by first | omega | decide)) (fun y18 s18 hy18 ry18 => ?_)
          refine xi_iastore (pc' := 188) (x' := y18) kc_58_187 rfl A17 rfl (xi_in (by omega) (by rw [hy17]; omega)) s18 (fun hh18 eh18 => ?_)
          have K19 := xk_pa K (xk_wa rfl) xD_155 hy18 ry18 eh18
          refine xcps2 (α := Int32) (x3 + (-1)) (fun v20 ev20 => ?_)
          have zv20 : v20.toInt = (x3.toInt + (-1)) := by rw [← ev20]; exact (xz_add (X := x3.toInt) (Y := (-1)) rfl (by decide) (by omega) (by omega)).trans (by omega)
          refine xi_iinc (pc' := 191) (x := x3) (v := v20) (lv' := [(3, .int v20), (0, .ref 115), (2, .int x2), (4, .int x4), (5, .int 3), (6, .int 1)]) kc_58_188 rfl rfl ev20 rfl (xm_lt ml_58 rfl) ?_
          refine xi_goto (pc' := 48) kc_58_191 rfl ?_
          refine xw_lv (b := [(0, .ref 115), (2, .int x2), (3, .int v20)]) (lvS_cons (lvS_cons (lvS_cons (lvS_nil (show ([3, 0, 2, 4, 5, 6] : List Nat).Nodup by decide)) rfl) rfl) rfl) ?_
          exact i9 x2 v20 hh18 (by omega) (by omega) K19 (by omega)
        · refine xi_iff (pc' := 181) kc_58_178 rfl (xc_ge_f (X := x4.toInt) (Y := 0) rfl (by decide) (by omega)) ?_
          refine xi_iconst (pc' := 182) (v := 0) kc_58_181 rfl rfl ?_
          refine xi_goto (pc' := 187) kc_58_182 rfl ?_
          refine xcps4 (xk_arr K.1 xD_155) (fun y21 A21 hy21 ry21 => ?_)
          refine xcps4 (xj_set (v := 0) hy21 ry21 x3 (by first | omega | decide) (by first | omega | decide)) (fun y22 s22 hy22 ry22 => ?_)
          refine xi_iastore (pc' := 188) (x' := y22) kc_58_187 rfl A21 rfl (xi_in (by omega) (by rw [hy21]; omega)) s22 (fun hh22 eh22 => ?_)
          have K23 := xk_pa K (xk_wa rfl) xD_155 hy22 ry22 eh22
          refine xcps2 (α := Int32) (x3 + (-1)) (fun v24 ev24 => ?_)
          have zv24 : v24.toInt = (x3.toInt + (-1)) := by rw [← ev24]; exact (xz_add (X := x3.toInt) (Y := (-1)) rfl (by decide) (by omega) (by omega)).trans (by omega)
          refine xi_iinc (pc' := 191) (x := x3) (v := v24) (lv' := [(3, .int v24), (0, .ref 115), (2, .int x2), (4, .int x4), (5, .int 3), (6, .int 1)]) kc_58_188 rfl rfl ev24 rfl (xm_lt ml_58 rfl) ?_
          refine xi_goto (pc' := 48) kc_58_191 rfl ?_
          refine xw_lv (b := [(0, .ref 115), (2, .int x2), (3, .int v24)]) (lvS_cons (lvS_cons (lvS_cons (lvS_nil (show ([3, 0, 2, 4, 5, 6] : List Nat).Nodup by decide)) rfl) rfl) rfl) ?_
          exact i9 x2 v24 hh22 (by omega) (by omega) K23 (by omega)
      · refine xi_cmf (pc' := 71) kc_58_68 rfl (xc_ge_f (X := 1) (Y := u10.toInt) (by decide) rfl (by omega)) ?_
        refine xi_iload_n (pc' := 72) (x := x3) kc_58_71 rfl rfl ?_
        refine xi_iload (pc' := 74) (x := 3) kc_58_72 rfl rfl ?_
        refine xcps2 (α := Int32) (x3 / 3) (fun v25 ev25 => ?_)
        have dv25 : v25.toInt = x3.toInt / 3 := by rw [← ev25]; exact xz_dive (X := x3.toInt) (Y := 3) rfl (by decide) (by omega) (by decide)
        have bv25 : 0 ≤ v25.toInt ∧ v25.toInt ≤ 2186 := by omega
        refine xi_idiv (pc' := 75) (v := v25) kc_58_74 rfl ev25 (by decide) ?_
        refine xi_iconst (pc' := 76) (v := 3) kc_58_75 rfl rfl ?_
        refine xcps2 (α := Int32) (v25 - v25 / 3 * 3) (fun v26 ev26 => ?_)
        have dv26 : v26.toInt = v25.toInt % 3 := by rw [← ev26]; exact xz_reme (X := v25.toInt) (Y := 3) rfl (by decide) (by omega) (by decide)
        have bv26 : 0 ≤ v26.toInt ∧ v26.toInt ≤ 2 := by omega
        refine xi_irem (pc' := 77) (v := v26) kc_58_76 rfl ev26 (by decide) ?_
        by_cases c27 : v26.toInt = 0
        · refine xi_iff (pc' := 80) kc_58_77 rfl (xc_ne_f (X := v26.toInt) (Y := 0) rfl (by decide) (by omega)) ?_
          refine xi_aload_n (pc' := 81) (x := 115) kc_58_80 rfl rfl ?_
          refine xi_iload_n (pc' := 82) (x := x3) kc_58_81 rfl rfl ?_
          refine xi_iload (pc' := 84) (x := 1) kc_58_82 rfl rfl ?_
          refine xi_virtual (mj := 59) (as := [.int x3, .int 1]) (st1 := []) (lv0 := [(0, .ref 115), (1, .int x3), (2, .int 1)]) kc_58_84 rfl rfl rfl rfl rfl A14 (Nat.le_of_ble_eq_true rfl) (hJ _ _ _ _ (by decide)) (xm_le ml_59 rfl) rfl ?_
          have zc1 : (1 : Int32).toInt = 1 := by decide
          refine mt_59_0 hJ hov1 hov2 (d := d + 3) (x1 := x3) (x2 := 1) K.1 (by first | omega | decide) (by first | omega | decide) (fun r28 hh29 br28 K30 => ?_)
          have K31 := xk_tr K K30 rfl
          refine xp_115 K31.1 (fun u32 u33 u34 u35 u36 u37 u38 u39 u40 u41 u42 u43 u44 bu32 bu33 bu34 bu35 bu36 bu37 bu38 bu39 bu40 bu41 bu42 bu43 bu44 A45 => ?_)
          have e46 : u2 = u33 := xk_eqi (q := 1) K30 rfl A14 A45 rfl rfl
          subst e46
          have e47 : u5 = u36 := xk_eqi (q := 23) K30 rfl A14 A45 rfl rfl
          subst e47
          show xw J ov (d + 7) 58 (87, [(0, .ref 115), (2, .int x2), (3, .int x3), (4, .int x4), (5, .int 3), (6, .int 1)], [.int r28], hh29) _
          by_cases c48 : r28.toInt = 0
          · refine xi_ift (pc' := 159) kc_58_87 rfl (xc_eq_t (X := r28.toInt) (Y := 0) rfl (by decide) (by omega)) ?_
            refine xi_iload (pc' := 161) (x := 3) kc_58_159 rfl rfl ?_
            refine xi_iconst (pc' := 162) (v := 3) kc_58_161 rfl rfl ?_
            refine xi_imul (pc' := 163) (v := 9) kc_58_162 rfl rfl ?_
            refine xi_istore (pc' := 165) (lv' := [(5, .int 9), (0, .ref 115), (2, .int x2), (3, .int x3), (4, .int x4), (6, .int 1)]) kc_58_163 rfl rfl (xm_lt ml_58 rfl) ?_
            refine xi_iinc (pc' := 168) (x := 1) (v := 2) (lv' := [(6, .int 2), (5, .int 9), (0, .ref 115), (2, .int x2), (3, .int x3), (4, .int x4)]) kc_58_165 rfl rfl rfl rfl (xm_lt ml_58 rfl) ?_
            refine xi_goto (pc' := 62) kc_58_168 rfl ?_
            have zc2 : (2 : Int32).toInt = 2 := by decide
            have zc9 : (9 : Int32).toInt = 9 := by decide
            refine xw_lv (b := [(0, .ref 115), (2, .int x2), (3, .int x3), (4, .int x4), (5, .int 9), (6, .int 2)]) (lvS_cons (lvS_cons (lvS_cons (lvS_cons (lvS_cons (lvS_cons (lvS_nil (show ([6, 5, 0, 2, 3, 4] : List Nat).Nodup by decide)) rfl) rfl) rfl) rfl) rfl) rfl) ?_
            exact i12 x2 x3 x4 hh29 (by omega) (by omega) K31 (by omega)
          · refine xi_iff (pc' := 90) kc_58_87 rfl (xc_eq_f (X := r28.toInt) (Y := 0) rfl (by decide) (by omega)) ?_
            refine xi_aload_n (pc' := 91) (x := 115) kc_58_90 rfl rfl ?_
            refine xi_getfield (pc' := 94) (v := .ref 155) kc_58_91 rfl rfl rfl A45 rfl ?_
            refine xi_iload_n (pc' := 95) (x := x3) kc_58_94 rfl rfl ?_
            refine xi_iload (pc' := 97) (x := 3) kc_58_95 rfl rfl ?_
            refine xcps2 (α := Int32) (x3 + 3) (fun v49 ev49 => ?_)
            have zv49 : v49.toInt = (x3.toInt + 3) := by rw [← ev49]; exact (xz_add (X := x3.toInt) (Y := 3) rfl (by decide) (by omega) (by omega)).trans (by omega)
            refine xi_iadd (pc' := 98) (v := v49) kc_58_97 rfl ev49 ?_
            have t50 : (-3) ≤ x3.toInt ∧ x3.toInt ≤ 6557 := by omega
            refine xcps4 (xk_arr K31.1 xD_155) (fun y51 A51 hy51 ry51 => ?_)
            refine xcps4 (xj_get hy51 ry51 (i := v49) (by rw [zv49]; omega) (by rw [zv49]; omega)) (fun v52 ev52 bv52 dv52 => ?_)
            refine xi_iaload (pc' := 99) (v := v52) kc_58_98 rfl A51 (by decide) rfl (xi_in (by rw [zv49]; omega) (by rw [hy51]; rw [zv49]; omega)) ev52 ?_
            refine xi_istore (pc' := 101) (lv' := [(7, .int v52), (0, .ref 115), (2, .int x2), (3, .int x3), (4, .int x4), (5, .int 3), (6, .int 1)]) kc_58_99 rfl rfl (xm_lt ml_58 rfl) ?_
            refine xi_aload_n (pc' := 102) (x := 115) kc_58_101 rfl rfl ?_
            refine xi_getfield (pc' := 105) (v := .ref 155) kc_58_102 rfl rfl rfl A45 rfl ?_
            refine xi_iload_n (pc' := 106) (x := x3) kc_58_105 rfl rfl ?_
            refine xi_iconst (pc' := 107) (v := 2) kc_58_106 rfl rfl ?_
            refine xi_iload (pc' := 109) (x := 3) kc_58_107 rfl rfl ?_
            refine xi_imul (pc' := 110) (v := 6) kc_58_109 rfl rfl ?_
            refine xcps2 (α := Int32) (x3 + 6) (fun v53 ev53 => ?_)
            have zv53 : v53.toInt = (x3.toInt + 6) := by rw [← ev53]; exact (xz_add (X := x3.toInt) (Y := 6) rfl (by decide) (by omega) (by omega)).trans (by omega)
            refine xi_iadd (pc' := 111) (v := v53) kc_58_110 rfl ev53 ?_
            have t54 : (-6) ≤ x3.toInt ∧ x3.toInt ≤ 6554 := by omega
            refine xcps4 (xj_get hy51 ry51 (i := v53) (by rw [zv53]; omega) (by rw [zv53]; omega)) (fun v55 ev55 bv55 dv55 => ?_)
            refine xi_iaload (pc' := 112) (v := v55) kc_58_111 rfl A51 (by decide) rfl (xi_in (by rw [zv53]; omega) (by rw [hy51]; rw [zv53]; omega)) ev55 ?_
            refine xi_istore (pc' := 114) (lv' := [(8, .int v55), (7, .int v52), (0, .ref 115), (2, .int x2), (3, .int x3), (4, .int x4), (5, .int 3), (6, .int 1)]) kc_58_112 rfl rfl (xm_lt ml_58 rfl) ?_
            refine xi_aload_n (pc' := 115) (x := 115) kc_58_114 rfl rfl ?_
            refine xi_getfield (pc' := 118) (v := .ref 153) kc_58_115 rfl rfl rfl A45 rfl ?_
            refine xi_iload (pc' := 120) (x := 1) kc_58_118 rfl rfl ?_
            refine xcps4 (xk_arr K31.1 xD_153) (fun y56 A56 hy56 ry56 => ?_)
            refine xcps4 (xj_get hy56 ry56 (i := 1) (by decide) (by decide)) (fun v57 ev57 bv57 dv57 => ?_)
            refine xi_iaload (pc' := 121) (v := v57) kc_58_120 rfl A56 (by decide) rfl (xi_in (by decide) (by rw [hy56]; decide)) ev57 ?_
            refine xi_iload (pc' := 123) (x := v52) kc_58_121 rfl rfl ?_
            refine xi_iload (pc' := 125) (x := v55) kc_58_123 rfl rfl ?_
            by_cases c58 : v52.toInt ≤ v55.toInt
            · refine xi_cmt (pc' := 133) kc_58_125 rfl (xc_le_t (X := v52.toInt) (Y := v55.toInt) rfl rfl (by omega)) ?_
              refine xi_iload (pc' := 135) (x := v55) kc_58_133 rfl rfl ?_
              refine xcps2 (α := Int32) ((v57 : Int32) + v55) (fun v59 ev59 => ?_)
              have rv59 := xc_rng v59
              refine xi_iadd (pc' := 136) (v := v59) kc_58_135 rfl ev59 ?_
              refine xi_istore (pc' := 138) (lv' := [(9, .int v59), (8, .int v55), (7, .int v52), (0, .ref 115), (2, .int x2), (3, .int x3), (4, .int x4), (5, .int 3), (6, .int 1)]) kc_58_136 rfl rfl (xm_lt ml_58 rfl) ?_
              refine xi_iload (pc' := 140) (x := x4) kc_58_138 rfl rfl ?_
              by_cases c60 : x4.toInt < 0
              · refine xi_ift (pc' := 150) kc_58_140 rfl (xc_lt_t (X := x4.toInt) (Y := 0) rfl (by decide) (by omega)) ?_
                refine xi_iload (pc' := 152) (x := v59) kc_58_150 rfl rfl ?_
                refine xi_goto (pc' := 157) kc_58_152 rfl ?_
                refine xi_istore (pc' := 159) (lv' := [(4, .int v59), (9, .int v59), (8, .int v55), (7, .int v52), (0, .ref 115), (2, .int x2), (3, .int x3), (5, .int 3), (6, .int 1)]) kc_58_157 rfl rfl (xm_lt ml_58 rfl) ?_
                refine xi_iload (pc' := 161) (x := 3) kc_58_159 rfl rfl ?_
                refine xi_iconst (pc' := 162) (v := 3) kc_58_161 rfl rfl ?_
                refine xi_imul (pc' := 163) (v := 9) kc_58_162 rfl rfl ?_
                refine xi_istore (pc' := 165) (lv' := [(5, .int 9), (4, .int v59), (9, .int v59), (8, .int v55), (7, .int v52), (0, .ref 115), (2, .int x2), (3, .int x3), (6, .int 1)]) kc_58_163 rfl rfl (xm_lt ml_58 rfl) ?_
                refine xi_iinc (pc' := 168) (x := 1) (v := 2) (lv' := [(6, .int 2), (5, .int 9), (4, .int v59), (9, .int v59), (8, .int v55), (7, .int v52), (0, .ref 115), (2, .int x2), (3, .int x3)]) kc_58_165 rfl rfl rfl rfl (xm_lt ml_58 rfl) ?_
                refine xi_goto (pc' := 62) kc_58_168 rfl ?_
                have zc2 : (2 : Int32).toInt = 2 := by decide
                have zc9 : (9 : Int32).toInt = 9 := by decide
                refine xw_lv (b := [(0, .ref 115), (2, .int x2), (3, .int x3), (4, .int v59), (5, .int 9), (6, .int 2)]) (lvS_cons (lvS_cons (lvS_cons (lvS_cons (lvS_cons (lvS_cons (lvS_nil (show ([6, 5, 4, 9, 8, 7, 0, 2, 3] : List Nat).Nodup by decide)) rfl) rfl) rfl) rfl) rfl) rfl) ?_
                exact i12 x2 x3 v59 hh29 (by omega) (by omega) K31 (by omega)
              · refine xi_iff (pc' := 143) kc_58_140 rfl (xc_lt_f (X := x4.toInt) (Y := 0) rfl (by decide) (by omega)) ?_
                refine xi_iload (pc' := 145) (x := v59) kc_58_143 rfl rfl ?_
                refine xi_iload (pc' := 147) (x := x4) kc_58_145 rfl rfl ?_
                by_cases c61 : x4.toInt ≤ v59.toInt
                · refine xi_cmt (pc' := 155) kc_58_147 rfl (xc_ge_t (X := v59.toInt) (Y := x4.toInt) rfl rfl (by omega)) ?_
                  refine xi_iload (pc' := 157) (x := x4) kc_58_155 rfl rfl ?_
                  refine xi_istore (pc' := 159) (lv' := [(4, .int x4), (9, .int v59), (8, .int v55), (7, .int v52), (0, .ref 115), (2, .int x2), (3, .int x3), (5, .int 3), (6, .int 1)]) kc_58_157 rfl rfl (xm_lt ml_58 rfl) ?_
                  refine xi_iload (pc' := 161) (x := 3) kc_58_159 rfl rfl ?_
                  refine xi_iconst (pc' := 162) (v := 3) kc_58_161 rfl rfl ?_
                  refine xi_imul (pc' := 163) (v := 9) kc_58_162 rfl rfl ?_
                  refine xi_istore (pc' := 165) (lv' := [(5, .int 9), (4, .int x4), (9, .int v59), (8, .int v55), (7, .int v52), (0, .ref 115), (2, .int x2), (3, .int x3), (6, .int 1)]) kc_58_163 rfl rfl (xm_lt ml_58 rfl) ?_
                  refine xi_iinc (pc' := 168) (x := 1) (v := 2) (lv' := [(6, .int 2), (5, .int 9), (4, .int x4), (9, .int v59), (8, .int v55), (7, .int v52), (0, .ref 115), (2, .int x2), (3, .int x3)]) kc_58_165 rfl rfl rfl rfl (xm_lt ml_58 rfl) ?_
                  refine xi_goto (pc' := 62) kc_58_168 rfl ?_
                  have zc2 : (2 : Int32).toInt = 2 := by decide
                  have zc9 : (9 : Int32).toInt = 9 := by decide
                  refine xw_lv (b := [(0, .ref 115), (2, .int x2), (3, .int x3), (4, .int x4), (5, .int 9), (6, .int 2)]) (lvS_cons (lvS_cons (lvS_cons (lvS_cons (lvS_cons (lvS_cons (lvS_nil (show ([6, 5, 4, 9, 8, 7, 0, 2, 3] : List Nat).Nodup by decide)) rfl) rfl) rfl) rfl) rfl) rfl) ?_
                  exact i12 x2 x3 x4 hh29 (by omega) (by omega) K31 (by omega)
                · refine xi_cmf (pc' := 150) kc_58_147 rfl (xc_ge_f (X := v59.toInt) (Y := x4.toInt) rfl rfl (by omega)) ?_
                  refine xi_iload (pc' := 152) (x := v59) kc_58_150 rfl rfl ?_
                  refine xi_goto (pc' := 157) kc_58_152 rfl ?_
                  refine xi_istore (pc' := 159) (lv' := [(4, .int v59), (9, .int v59), (8, .int v55), (7, .int v52), (0, .ref 115), (2, .int x2), (3, .int x3), (5, .int 3), (6, .int 1)]) kc_58_157 rfl rfl (xm_lt ml_58 rfl) ?_
                  refine xi_iload (pc' := 161) (x := 3) kc_58_159 rfl rfl ?_
                  refine xi_iconst (pc' := 162) (v := 3) kc_58_161 rfl rfl ?_
                  refine xi_imul (pc' := 163) (v := 9) kc_58_162 rfl rfl ?_
                  refine xi_istore (pc' := 165) (lv' := [(5, .int 9), (4, .int v59), (9, .int v59), (8, .int v55), (7, .int v52), (0, .ref 115), (2, .int x2), (3, .int x3), (6, .int 1)]) kc_58_163 rfl rfl (xm_lt ml_58 rfl) ?_
                  refine xi_iinc (pc' := 168) (x := 1) (v := 2) (lv' := [(6, .int 2), (5, .int 9), (4, .int v59), (9, .int v59), (8, .int v55), (7, .int v52), (0, .ref 115), (2, .int x2), (3, .int x3)]) kc_58_165 rfl rfl rfl rfl (xm_lt ml_58 rfl) ?_
                  refine xi_goto (pc' := 62) kc_58_168 rfl ?_
                  have zc2 : (2 : Int32).toInt = 2 := by decide
                  have zc9 : (9 : Int32).toInt = 9 := by decide
                  refine xw_lv (b := [(0, .ref 115), (2, .int x2), (3, .int x3), (4, .int v59), (5, .int 9), (6, .int 2)]) (lvS_cons (lvS_cons (lvS_cons (lvS_cons (lvS_cons (lvS_cons (lvS_nil (show ([6, 5, 4, 9, 8, 7, 0, 2, 3] : List Nat).Nodup by decide)) rfl) rfl) rfl) rfl) rfl) rfl) ?_
                  exact i12 x2 x3 v59 hh29 (by omega) (by omega) K31 (by omega)
            · refine xi_cmf (pc' := 128) kc_58_125 rfl (xc_le_f (X := v52.toInt) (Y := v55.toInt) rfl rfl (by omega)) ?_
              refine xi_iload (pc' := 130) (x := v52) kc_58_128 rfl rfl ?_
              refine xi_goto (pc' := 135) kc_58_130 rfl ?_
              refine xcps2 (α := Int32) ((v57 : Int32) + v52) (fun v62 ev62 => ?_)
              have rv62 := xc_rng v62
              refine xi_iadd (pc' := 136) (v := v62) kc_58_135 rfl ev62 ?_
              refine xi_istore (pc' := 138) (lv' := [(9, .int v62), (8, .int v55), (7, .int v52), (0, .ref 115), (2, .int x2), (3, .int x3), (4, .int x4), (5, .int 3), (6, .int 1)]) kc_58_136 rfl rfl (xm_lt ml_58 rfl) ?_
              refine xi_iload (pc' := 140) (x := x4) kc_58_138 rfl rfl ?_
              by_cases c63 : x4.toInt < 0
              · refine xi_ift (pc' := 150) kc_58_140 rfl (xc_lt_t (X := x4.toInt) (Y := 0) rfl (by decide) (by omega)) ?_
                refine xi_iload (pc' := 152) (x := v62) kc_58_150 rfl rfl ?_
                refine xi_goto (pc' := 157) kc_58_152 rfl ?_
                refine xi_istore (pc' := 159) (lv' := [(4, .int v62), (9, .int v62), (8, .int v55), (7, .int v52), (0, .ref 115), (2, .int x2), (3, .int x3), (5, .int 3), (6, .int 1)]) kc_58_157 rfl rfl (xm_lt ml_58 rfl) ?_
                refine xi_iload (pc' := 161) (x := 3) kc_58_159 rfl rfl ?_
                refine xi_iconst (pc' := 162) (v := 3) kc_58_161 rfl rfl ?_
                refine xi_imul (pc' := 163) (v := 9) kc_58_162 rfl rfl ?_
                refine xi_istore (pc' := 165) (lv' := [(5, .int 9), (4, .int v62), (9, .int v62), (8, .int v55), (7, .int v52), (0, .ref 115), (2, .int x2), (3, .int x3), (6, .int 1)]) kc_58_163 rfl rfl (xm_lt ml_58 rfl) ?_
                refine xi_iinc (pc' := 168) (x := 1) (v := 2) (lv' := [(6, .int 2), (5, .int 9), (4, .int v62), (9, .int v62), (8, .int v55), (7, .int v52), (0, .ref 115), (2, .int x2), (3, .int x3)]) kc_58_165 rfl rfl rfl rfl (xm_lt ml_58 rfl) ?_
                refine xi_goto (pc' := 62) kc_58_168 rfl ?_
                have zc2 : (2 : Int32).toInt = 2 := by decide
                have zc9 : (9 : Int32).toInt = 9 := by decide
                refine xw_lv (b := [(0, .ref 115), (2, .int x2), (3, .int x3), (4, .int v62), (5, .int 9), (6, .int 2)]) (lvS_cons (lvS_cons (lvS_cons (lvS_cons (lvS_cons (lvS_cons (lvS_nil (show ([6, 5, 4, 9, 8, 7, 0, 2, 3] : List Nat).Nodup by decide)) rfl) rfl) rfl) rfl) rfl) rfl) ?_
                exact i12 x2 x3 v62 hh29 (by omega) (by omega) K31 (by omega)
              · refine xi_iff (pc' := 143) kc_58_140 rfl (xc_lt_f (X := x4.toInt) (Y := 0) rfl (by decide) (by omega)) ?_
                refine xi_iload (pc' := 145) (x := v62) kc_58_143 rfl rfl ?_
                refine xi_iload (pc' := 147) (x := x4) kc_58_145 rfl rfl ?_
                by_cases c64 : x4.toInt ≤ v62.toInt
                · refine xi_cmt (pc' := 155) kc_58_147 rfl (xc_ge_t (X := v62.toInt) (Y := x4.toInt) rfl rfl (by omega)) ?_
                  refine xi_iload (pc' := 157) (x := x4) kc_58_155 rfl rfl ?_
                  refine xi_istore (pc' := 159) (lv' := [(4, .int x4), (9, .int v62), (8, .int v55), (7, .int v52), (0, .ref 115), (2, .int x2), (3, .int x3), (5, .int 3), (6, .int 1)]) kc_58_157 rfl rfl (xm_lt ml_58 rfl) ?_
                  refine xi_iload (pc' := 161) (x := 3) kc_58_159 rfl rfl ?_
                  refine xi_iconst (pc' := 162) (v := 3) kc_58_161 rfl rfl ?_
                  refine xi_imul (pc' := 163) (v := 9) kc_58_162 rfl rfl ?_
                  refine xi_istore (pc' := 165) (lv' := [(5, .int 9), (4, .int x4), (9, .int v62), (8, .int v55), (7, .int v52), (0, .ref 115), (2, .int x2), (3, .int x3), (6, .int 1)]) kc_58_163 rfl rfl (xm_lt ml_58 rfl) ?_
                  refine xi_iinc (pc' := 168) (x := 1) (v := 2) (lv' := [(6, .int 2), (5, .int 9), (4, .int x4), (9, .int v62), (8, .int v55), (7, .int v52), (0, .ref 115), (2, .int x2), (3, .int x3)]) kc_58_165 rfl rfl rfl rfl (xm_lt ml_58 rfl) ?_
                  refine xi_goto (pc' := 62) kc_58_168 rfl ?_
                  have zc2 : (2 : Int32).toInt = 2 := by decide
                  have zc9 : (9 : Int32).toInt = 9 := by decide
                  refine xw_lv (b := [(0, .ref 115), (2, .int x2), (3, .int x3), (4, .int x4), (5, .int 9), (6, .int 2)]) (lvS_cons (lvS_cons (lvS_cons (lvS_cons (lvS_cons (lvS_cons (lvS_nil (show ([6, 5, 4, 9, 8, 7, 0, 2, 3] : List Nat).Nodup by decide)) rfl) rfl) rfl) rfl) rfl) rfl) ?_
                  exact i12 x2 x3 x4 hh29 (by omega) (by omega) K31 (by omega)
                · refine xi_cmf (pc' := 150) kc_58_147 rfl (xc_ge_f (X := v62.toInt) (Y := x4.toInt) rfl rfl (by omega)) ?_
                  refine xi_iload (pc' := 152) (x := v62) kc_58_150 rfl rfl ?_
                  refine xi_goto (pc' := 157) kc_58_152 rfl ?_
                  refine xi_istore (pc' := 159) (lv' := [(4, .int v62), (9, .int v62), (8, .int v55), (7, .int v52), (0, .ref 115), (2, .int x2), (3, .int x3), (5, .int 3), (6, .int 1)]) kc_58_157 rfl rfl (xm_lt ml_58 rfl) ?_
                  refine xi_iload (pc' := 161) (x := 3) kc_58_159 rfl rfl ?_
                  refine xi_iconst (pc' := 162) (v := 3) kc_58_161 rfl rfl ?_
                  refine xi_imul (pc' := 163) (v := 9) kc_58_162 rfl rfl ?_
                  refine xi_istore (pc' := 165) (lv' := [(5, .int 9), (4, .int v62), (9, .int v62), (8, .int v55), (7, .int v52), (0, .ref 115), (2, .int x2), (3, .int x3), (6, .int 1)]) kc_58_163 rfl rfl (xm_lt ml_58 rfl) ?_
                  refine xi_iinc (pc' := 168) (x := 1) (v := 2) (lv' := [(6, .int 2), (5, .int 9), (4, .int v62), (9, .int v62), (8, .int v55), (7, .int v52), (0, .ref 115), (2, .int x2), (3, .int x3)]) kc_58_165 rfl rfl rfl rfl (xm_lt ml_58 rfl) ?_
                  refine xi_goto (pc' := 62) kc_58_168 rfl ?_
                  have zc2 : (2 : Int32).toInt = 2 := by decide
                  have zc9 : (9 : Int32).toInt = 9 := by decide
                  refine xw_lv (b := [(0, .ref 115), (2, .int x2), (3, .int x3), (4, .int v62), (5, .int 9), (6, .int 2)]) (lvS_cons (lvS_cons (lvS_cons (lvS_cons (lvS_cons (lvS_cons (lvS_nil (show ([6, 5, 4, 9, 8, 7, 0, 2, 3] : List Nat).Nodup by decide)) rfl) rfl) rfl) rfl) rfl) rfl) ?_
                  exact i12 x2 x3 v62 hh29 (by omega) (by omega) K31 (by omega)
        · refine xi_ift (pc' := 159) kc_58_77 rfl (xc_ne_t (X := v26.toInt) (Y := 0) rfl (by decide) (by omega)) ?_
          refine xi_iload (pc' := 161) (x := 3) kc_58_159 rfl rfl ?_
          refine xi_iconst (pc' := 162) (v := 3) kc_58_161 rfl rfl ?_
          refine xi_imul (pc' := 163) (v := 9) kc_58_162 rfl rfl ?_
          refine xi_istore (pc' := 165) (lv' := [(5, .int 9), (0, .ref 115), (2, .int x2), (3, .int x3), (4, .int x4), (6, .int 1)]) kc_58_163 rfl rfl (xm_lt ml_58 rfl) ?_
          refine xi_iinc (pc' := 168) (x := 1) (v := 2) (lv' := [(6, .int 2), (5, .int 9), (0, .ref 115), (2, .int x2), (3, .int x3), (4, .int x4)]) kc_58_165 rfl rfl rfl rfl (xm_lt ml_58 rfl) ?_
          refine xi_goto (pc' := 62) kc_58_168 rfl ?_
          have zc2 : (2 : Int32).toInt = 2 := by decide
          have zc9 : (9 : Int32).toInt = 9 := by decide
          refine xw_lv (b := [(0, .ref 115), (2, .int x2), (3, .int x3), (4, .int x4), (5, .int 9), (6, .int 2)]) (lvS_cons (lvS_cons (lvS_cons (lvS_cons (lvS_cons (lvS_cons (lvS_nil (show ([6, 5, 0, 2, 3, 4] : List Nat).Nodup by decide)) rfl) rfl) rfl) rfl) rfl) rfl) ?_
          exact i12 x2 x3 x4 h (by omega) (by omega) K (by omega)
    · intro x2 x3 x4 h b2 b3 K hm
      have rx4 := xc_rng x4
      refine xi_iload (pc' := 64) (x := 2) kc_58_62 rfl rfl ?_
      refine xi_aload_n (pc' := 65) (x := 115) kc_58_64 rfl rfl ?_
      refine xp_115 K.1 (fun u1 u2 u3 u4 u5 u6 u7 u8 u9 u10 u11 u12 u13 bu1 bu2 bu3 bu4 bu5 bu6 bu7 bu8 bu9 bu10 bu11 bu12 bu13 A14 => ?_)
      refine xi_getfield (pc' := 68) (v := .int u10) kc_58_65 rfl rfl rfl A14 rfl ?_
      by_cases c15 : u10.toInt ≤ 2
      · refine xi_cmt (pc' := 171) kc_58_68 rfl (xc_ge_t (X := 2) (Y := u10.toInt) (by decide) rfl (by omega)) ?_
        refine xi_aload_n (pc' := 172) (x := 115) kc_58_171 rfl rfl ?_
        refine xi_getfield (pc' := 175) (v := .ref 155) kc_58_172 rfl rfl rfl A14 rfl ?_
        refine xi_iload_n (pc' := 176) (x := x3) kc_58_175 rfl rfl ?_
        refine xi_iload (pc' := 178) (x := x4) kc_58_176 rfl rfl ?_
        by_cases c16 : 0 ≤ x4.toInt
        · refine xi_ift (pc' := 185) kc_58_178 rfl (xc_ge_t (X := x4.toInt) (Y := 0) rfl (by decide) (by omega)) ?_
          refine xi_iload (pc' := 187) (x := x4) kc_58_185 rfl rfl ?_
          refine xcps4 (xk_arr K.1 xD_155) (fun y17 A17 hy17 ry17 => ?_)
          refine xcps4 (xj_set (v := x4) hy17 ry17 x3 (by first | omega | decide) (by first | omega | decide)) (fun y18 s18 hy18 ry18 => ?_)
          refine xi_iastore (pc' := 188) (x' := y18) kc_58_187 rfl A17 rfl (xi_in (by omega) (by rw [hy17]; omega)) s18 (fun hh18 eh18 => ?_)
          have K19 := xk_pa K (xk_wa rfl) xD_155 hy18 ry18 eh18
          refine xcps2 (α := Int32) (x3 + (-1)) (fun v20 ev20 => ?_)
          have zv20 : v20.toInt = (x3.toInt + (-1)) := by rw [← ev20]; exact (xz_add (X := x3.toInt) (Y := (-1)) rfl (by decide) (by omega) (by omega)).trans (by omega)
          refine xi_iinc (pc' := 191) (x := x3) (v := v20) (lv' := [(3, .int v20), (0, .ref 115), (2, .int x2), (4, .int x4), (5, .int 9), (6, .int 2)]) kc_58_188 rfl rfl ev20 rfl (xm_lt ml_58 rfl) ?_
          refine xi_goto (pc' := 48) kc_58_191 rfl ?_
          refine xw_lv (b := [(0, .ref 115), (2, .int x2), (3, .int v20)]) (lvS_cons (lvS_cons (lvS_cons (lvS_nil (show ([3, 0, 2, 4, 5, 6] : List Nat).Nodup by decide)) rfl) rfl) rfl) ?_
          exact i9 x2 v20 hh18 (by omega) (by omega) K19 (by omega)
        · refine xi_iff (pc' := 181) kc_58_178 rfl (xc_ge_f (X := x4.toInt) (Y := 0) rfl (by decide) (by omega)) ?_
          refine xi_iconst (pc' := 182) (v := 0) kc_58_181 rfl rfl ?_
          refine xi_goto (pc' := 187) kc_58_182 rfl ?_
          refine xcps4 (xk_arr K.1 xD_155) (fun y21 A21 hy21 ry21 => ?_)
          refine xcps4 (xj_set (v := 0) hy21 ry21 x3 (by first | omega | decide) (by first | omega | decide)) (fun y22 s22 hy22 ry22 => ?_)
          refine xi_iastore (pc' := 188) (x' := y22) kc_58_187 rfl A21 rfl (xi_in (by omega) (by rw [hy21]; omega)) s22 (fun hh22 eh22 => ?_)
          have K23 := xk_pa K (xk_wa rfl) xD_155 hy22 ry22 eh22
          refine xcps2 (α := Int32) (x3 + (-1)) (fun v24 ev24 => ?_)
          have zv24 : v24.toInt = (x3.toInt + (-1)) := by rw [← ev24]; exact (xz_add (X := x3.toInt) (Y := (-1)) rfl (by decide) (by omega) (by omega)).trans (by omega)
          refine xi_iinc (pc' := 191) (x := x3) (v := v24) (lv' := [(3, .int v24), (0, .ref 115), (2, .int x2), (4, .int x4), (5, .int 9), (6, .int 2)]) kc_58_188 rfl rfl ev24 rfl (xm_lt ml_58 rfl) ?_
          refine xi_goto (pc' := 48) kc_58_191 rfl ?_
          refine xw_lv (b := [(0, .ref 115), (2, .int x2), (3, .int v24)]) (lvS_cons (lvS_cons (lvS_cons (lvS_nil (show ([3, 0, 2, 4, 5, 6] : List Nat).Nodup by decide)) rfl) rfl) rfl) ?_
          exact i9 x2 v24 hh22 (by omega) (by omega) K23 (by omega)
      · refine xi_cmf (pc' := 71) kc_58_68 rfl (xc_ge_f (X := 2) (Y := u10.toInt) (by decide) rfl (by omega)) ?_
        refine xi_iload_n (pc' := 72) (x := x3) kc_58_71 rfl rfl ?_
        refine xi_iload (pc' := 74) (x := 9) kc_58_72 rfl rfl ?_
        refine xcps2 (α := Int32) (x3 / 9) (fun v25 ev25 => ?_)
        have dv25 : v25.toInt = x3.toInt / 9 := by rw [← ev25]; exact xz_dive (X := x3.toInt) (Y := 9) rfl (by decide) (by omega) (by decide)
        have bv25 : 0 ≤ v25.toInt ∧ v25.toInt ≤ 728 := by omega
        refine xi_idiv (pc' := 75) (v := v25) kc_58_74 rfl ev25 (by decide) ?_
        refine xi_iconst (pc' := 76) (v := 3) kc_58_75 rfl rfl ?_
        refine xcps2 (α := Int32) (v25 - v25 / 3 * 3) (fun v26 ev26 => ?_)
        have dv26 : v26.toInt = v25.toInt % 3 := by rw [← ev26]; exact xz_reme (X := v25.toInt) (Y := 3) rfl (by decide) (by omega) (by decide)
        have bv26 : 0 ≤ v26.toInt ∧ v26.toInt ≤ 2 := by omega
        refine xi_irem (pc' := 77) (v := v26) kc_58_76 rfl ev26 (by decide) ?_
        by_cases c27 : v26.toInt = 0
        · refine xi_iff (pc' := 80) kc_58_77 rfl (xc_ne_f (X := v26.toInt) (Y := 0) rfl (by decide) (by omega)) ?_
          refine xi_aload_n (pc' := 81) (x := 115) kc_58_80 rfl rfl ?_
          refine xi_iload_n (pc' := 82) (x := x3) kc_58_81 rfl rfl ?_
          refine xi_iload (pc' := 84) (x := 2) kc_58_82 rfl rfl ?_
          refine xi_virtual (mj := 59) (as := [.int x3, .int 2]) (st1 := []) (lv0 := [(0, .ref 115), (1, .int x3), (2, .int 2)]) kc_58_84 rfl rfl rfl rfl rfl A14 (Nat.le_of_ble_eq_true rfl) (hJ _ _ _ _ (by decide)) (xm_le ml_59 rfl) rfl ?_
          have zc2 : (2 : Int32).toInt = 2 := by decide
          refine mt_59_0 hJ hov1 hov2 (d := d + 3) (x1 := x3) (x2 := 2) K.1 (by first | omega | decide) (by first | omega | decide) (fun r28 hh29 br28 K30 => ?_)
          have K31 := xk_tr K K30 rfl
          refine xp_115 K31.1 (fun u32 u33 u34 u35 u36 u37 u38 u39 u40 u41 u42 u43 u44 bu32 bu33 bu34 bu35 bu36 bu37 bu38 bu39 bu40 bu41 bu42 bu43 bu44 A45 => ?_)
          have e46 : u2 = u33 := xk_eqi (q := 1) K30 rfl A14 A45 rfl rfl
          subst e46
          have e47 : u5 = u36 := xk_eqi (q := 23) K30 rfl A14 A45 rfl rfl
          subst e47
          show xw J ov (d + 7) 58 (87, [(0, .ref 115), (2, .int x2), (3, .int x3), (4, .int x4), (5, .int 9), (6, .int 2)], [.int r28], hh29) _
          by_cases c48 : r28.toInt = 0
          · refine xi_ift (pc' := 159) kc_58_87 rfl (xc_eq_t (X := r28.toInt) (Y := 0) rfl (by decide) (by omega)) ?_
            refine xi_iload (pc' := 161) (x := 9) kc_58_159 rfl rfl ?_
            refine xi_iconst (pc' := 162) (v := 3) kc_58_161 rfl rfl ?_
            refine xi_imul (pc' := 163) (v := 27) kc_58_162 rfl rfl ?_
            refine xi_istore (pc' := 165) (lv' := [(5, .int 27), (0, .ref 115), (2, .int x2), (3, .int x3), (4, .int x4), (6, .int 2)]) kc_58_163 rfl rfl (xm_lt ml_58 rfl) ?_
            refine xi_iinc (pc' := 168) (x := 2) (v := 3) (lv' := [(6, .int 3), (5, .int 27), (0, .ref 115), (2, .int x2), (3, .int x3), (4, .int x4)]) kc_58_165 rfl rfl rfl rfl (xm_lt ml_58 rfl) ?_
            refine xi_goto (pc' := 62) kc_58_168 rfl ?_
            have zc3 : (3 : Int32).toInt = 3 := by decide
            have zc27 : (27 : Int32).toInt = 27 := by decide
            refine xw_lv (b := [(0, .ref 115), (2, .int x2), (3, .int x3), (4, .int x4), (5, .int 27), (6, .int 3)]) (lvS_cons (lvS_cons (lvS_cons (lvS_cons (lvS_cons (lvS_cons (lvS_nil (show ([6, 5, 0, 2, 3, 4] : List Nat).Nodup by decide)) rfl) rfl) rfl) rfl) rfl) rfl) ?_
            exact i13 x2 x3 x4 hh29 (by omega) (by omega) K31 (by omega)
          · refine xi_iff (pc' := 90) kc_58_87 rfl (xc_eq_f (X := r28.toInt) (Y := 0) rfl (by decide) (by omega)) ?_
            refine xi_aload_n (pc' := 91) (x := 115) kc_58_90 rfl rfl ?_
            refine xi_getfield (pc' := 94) (v := .ref 155) kc_58_91 rfl rfl rfl A45 rfl ?_
            refine xi_iload_n (pc' := 95) (x := x3) kc_58_94 rfl rfl ?_
            refine xi_iload (pc' := 97) (x := 9) kc_58_95 rfl rfl ?_
            refine xcps2 (α := Int32) (x3 + 9) (fun v49 ev49 => ?_)
            have zv49 : v49.toInt = (x3.toInt + 9) := by rw [← ev49]; exact (xz_add (X := x3.toInt) (Y := 9) rfl (by decide) (by omega) (by omega)).trans (by omega)
            refine xi_iadd (pc' := 98) (v := v49) kc_58_97 rfl ev49 ?_
            have t50 : (-9) ≤ x3.toInt ∧ x3.toInt ≤ 6551 := by omega
            refine xcps4 (xk_arr K31.1 xD_155) (fun y51 A51 hy51 ry51 => ?_)
            refine xcps4 (xj_get hy51 ry51 (i := v49) (by rw [zv49]; omega) (by rw [zv49]; omega)) (fun v52 ev52 bv52 dv52 => ?_)
            refine xi_iaload (pc' := 99) (v := v52) kc_58_98 rfl A51 (by decide) rfl (xi_in (by rw [zv49]; omega) (by rw [hy51]; rw [zv49]; omega)) ev52 ?_
            refine xi_istore (pc' := 101) (lv' := [(7, .int v52), (0, .ref 115), (2, .int x2), (3, .int x3), (4, .int x4), (5, .int 9), (6, .int 2)]) kc_58_99 rfl rfl (xm_lt ml_58 rfl) ?_
            refine xi_aload_n (pc' := 102) (x := 115) kc_58_101 rfl rfl ?_
            refine xi_getfield (pc' := 105) (v := .ref 155) kc_58_102 rfl rfl rfl A45 rfl ?_
            refine xi_iload_n (pc' := 106) (x := x3) kc_58_105 rfl rfl ?_
            refine xi_iconst (pc' := 107) (v := 2) kc_58_106 rfl rfl ?_
            refine xi_iload (pc' := 109) (x := 9) kc_58_107 rfl rfl ?_
            refine xi_imul (pc' := 110) (v := 18) kc_58_109 rfl rfl ?_
            refine xcps2 (α := Int32) (x3 + 18) (fun v53 ev53 => ?_)
            have zv53 : v53.toInt = (x3.toInt + 18) := by rw [← ev53]; exact (xz_add (X := x3.toInt) (Y := 18) rfl (by decide) (by omega) (by omega)).trans (by omega)
            refine xi_iadd (pc' := 111) (v := v53) kc_58_110 rfl ev53 ?_
            have t54 : (-18) ≤ x3.toInt ∧ x3.toInt ≤ 6542 := by omega
            refine xcps4 (xj_get hy51 ry51 (i := v53) (by rw [zv53]; omega) (by rw [zv53]; omega)) (fun v55 ev55 bv55 dv55 => ?_)
            refine xi_iaload (pc' := 112) (v := v55) kc_58_111 rfl A51 (by decide) rfl (xi_in (by rw [zv53]; omega) (by rw [hy51]; rw [zv53]; omega)) ev55 ?_
            refine xi_istore (pc' := 114) (lv' := [(8, .int v55), (7, .int v52), (0, .ref 115), (2, .int x2), (3, .int x3), (4, .int x4), (5, .int 9), (6, .int 2)]) kc_58_112 rfl rfl (xm_lt ml_58 rfl) ?_
            refine xi_aload_n (pc' := 115) (x := 115) kc_58_114 rfl rfl ?_
            refine xi_getfield (pc' := 118) (v := .ref 153) kc_58_115 rfl rfl rfl A45 rfl ?_
            refine xi_iload (pc' := 120) (x := 2) kc_58_118 rfl rfl ?_
            refine xcps4 (xk_arr K31.1 xD_153) (fun y56 A56 hy56 ry56 => ?_)
            refine xcps4 (xj_get hy56 ry56 (i := 2) (by decide) (by decide)) (fun v57 ev57 bv57 dv57 => ?_)
            refine xi_iaload (pc' := 121) (v := v57) kc_58_120 rfl A56 (by decide) rfl (xi_in (by decide) (by rw [hy56]; decide)) ev57 ?_
            refine xi_iload (pc' := 123) (x := v52) kc_58_121 rfl rfl ?_
            refine xi_iload (pc' := 125) (x := v55) kc_58_123 rfl rfl ?_
            by_cases c58 : v52.toInt ≤ v55.toInt
            · refine xi_cmt (pc' := 133) kc_58_125 rfl (xc_le_t (X := v52.toInt) (Y := v55.toInt) rfl rfl (by omega)) ?_
              refine xi_iload (pc' := 135) (x := v55) kc_58_133 rfl rfl ?_
              refine xcps2 (α := Int32) ((v57 : Int32) + v55) (fun v59 ev59 => ?_)
              have rv59 := xc_rng v59
              refine xi_iadd (pc' := 136) (v := v59) kc_58_135 rfl ev59 ?_
              refine xi_istore (pc' := 138) (lv' := [(9, .int v59), (8, .int v55), (7, .int v52), (0, .ref 115), (2, .int x2), (3, .int x3), (4, .int x4), (5, .int 9), (6, .int 2)]) kc_58_136 rfl rfl (xm_lt ml_58 rfl) ?_
              refine xi_iload (pc' := 140) (x := x4) kc_58_138 rfl rfl ?_
              by_cases c60 : x4.toInt < 0
              · refine xi_ift (pc' := 150) kc_58_140 rfl (xc_lt_t (X := x4.toInt) (Y := 0) rfl (by decide) (by omega)) ?_
                refine xi_iload (pc' := 152) (x := v59) kc_58_150 rfl rfl ?_
                refine xi_goto (pc' := 157) kc_58_152 rfl ?_
                refine xi_istore (pc' := 159) (lv' := [(4, .int v59), (9, .int v59), (8, .int v55), (7, .int v52), (0, .ref 115), (2, .int x2), (3, .int x3), (5, .int 9), (6, .int 2)]) kc_58_157 rfl rfl (xm_lt ml_58 rfl) ?_
                refine xi_iload (pc' := 161) (x := 9) kc_58_159 rfl rfl ?_
                refine xi_iconst (pc' := 162) (v := 3) kc_58_161 rfl rfl ?_
                refine xi_imul (pc' := 163) (v := 27) kc_58_162 rfl rfl ?_
                refine xi_istore (pc' := 165) (lv' := [(5, .int 27), (4, .int v59), (9, .int v59), (8, .int v55), (7, .int v52), (0, .ref 115), (2, .int x2), (3, .int x3), (6, .int 2)]) kc_58_163 rfl rfl (xm_lt ml_58 rfl) ?_
                refine xi_iinc (pc' := 168) (x := 2) (v := 3) (lv' := [(6, .int 3), (5, .int 27), (4, .int v59), (9, .int v59), (8, .int v55), (7, .int v52), (0, .ref 115), (2, .int x2), (3, .int x3)]) kc_58_165 rfl rfl rfl rfl (xm_lt ml_58 rfl) ?_
                refine xi_goto (pc' := 62) kc_58_168 rfl ?_
                have zc3 : (3 : Int32).toInt = 3 := by decide
                have zc27 : (27 : Int32).toInt = 27 := by decide
                refine xw_lv (b := [(0, .ref 115), (2, .int x2), (3, .int x3), (4, .int v59), (5, .int 27), (6, .int 3)]) (lvS_cons (lvS_cons (lvS_cons (lvS_cons (lvS_cons (lvS_cons (lvS_nil (show ([6, 5, 4, 9, 8, 7, 0, 2, 3] : List Nat).Nodup by decide)) rfl) rfl) rfl) rfl) rfl) rfl) ?_
                exact i13 x2 x3 v59 hh29 (by omega) (by omega) K31 (by omega)
              · refine xi_iff (pc' := 143) kc_58_140 rfl (xc_lt_f (X := x4.toInt) (Y := 0) rfl (by decide) (by omega)) ?_
                refine xi_iload (pc' := 145) (x := v59) kc_58_143 rfl rfl ?_
                refine xi_iload (pc' := 147) (x := x4) kc_58_145 rfl rfl ?_
                by_cases c61 : x4.toInt ≤ v59.toInt
                · refine xi_cmt (pc' := 155) kc_58_147 rfl (xc_ge_t (X := v59.toInt) (Y := x4.toInt) rfl rfl (by omega)) ?_
                  refine xi_iload (pc' := 157) (x := x4) kc_58_155 rfl rfl ?_
                  refine xi_istore (pc' := 159) (lv' := [(4, .int x4), (9, .int v59), (8, .int v55), (7, .int v52), (0, .ref 115), (2, .int x2), (3, .int x3), (5, .int 9), (6, .int 2)]) kc_58_157 rfl rfl (xm_lt ml_58 rfl) ?_
                  refine xi_iload (pc' := 161) (x := 9) kc_58_159 rfl rfl ?_
                  refine xi_iconst (pc' := 162) (v := 3) kc_58_161 rfl rfl ?_
                  refine xi_imul (pc' := 163) (v := 27) kc_58_162 rfl rfl ?_
                  refine xi_istore (pc' := 165) (lv' := [(5, .int 27), (4, .int x4), (9, .int v59), (8, .int v55), (7, .int v52), (0, .ref 115), (2, .int x2), (3, .int x3), (6, .int 2)]) kc_58_163 rfl rfl (xm_lt ml_58 rfl) ?_
                  refine xi_iinc (pc' := 168) (x := 2) (v := 3) (lv' := [(6, .int 3), (5, .int 27), (4, .int x4), (9, .int v59), (8, .int v55), (7, .int v52), (0, .ref 115), (2, .int x2), (3, .int x3)]) kc_58_165 rfl rfl rfl rfl (xm_lt ml_58 rfl) ?_
                  refine xi_goto (pc' := 62) kc_58_168 rfl ?_
                  have zc3 : (3 : Int32).toInt = 3 := by decide
                  have zc27 : (27 : Int32).toInt = 27 := by decide
                  refine xw_lv (b := [(0, .ref 115), (2, .int x2), (3, .int x3), (4, .int x4), (5, .int 27), (6, .int 3)]) (lvS_cons (lvS_cons (lvS_cons (lvS_cons (lvS_cons (lvS_cons (lvS_nil (show ([6, 5, 4, 9, 8, 7, 0, 2, 3] : List Nat).Nodup by decide)) rfl) rfl) rfl) rfl) rfl) rfl) ?_
                  exact i13 x2 x3 x4 hh29 (by omega) (by omega) K31 (by omega)
                · refine xi_cmf (pc' := 150) kc_58_147 rfl (xc_ge_f (X := v59.toInt) (Y := x4.toInt) rfl rfl (by omega)) ?_
                  refine xi_iload (pc' := 152) (x := v59) kc_58_150 rfl rfl ?_
                  refine xi_goto (pc' := 157) kc_58_152 rfl ?_
                  refine xi_istore (pc' := 159) (lv' := [(4, .int v59), (9, .int v59), (8, .int v55), (7, .int v52), (0, .ref 115), (2, .int x2), (3, .int x3), (5, .int 9), (6, .int 2)]) kc_58_157 rfl rfl (xm_lt ml_58 rfl) ?_
                  refine xi_iload (pc' := 161) (x := 9) kc_58_159 rfl rfl ?_
                  refine xi_iconst (pc' := 162) (v := 3) kc_58_161 rfl rfl ?_
                  refine xi_imul (pc' := 163) (v := 27) kc_58_162 rfl rfl ?_
                  refine xi_istore (pc' := 165) (lv' := [(5, .int 27), (4, .int v59), (9, .int v59), (8, .int v55), (7, .int v52), (0, .ref 115), (2, .int x2), (3, .int x3), (6, .int 2)]) kc_58_163 rfl rfl (xm_lt ml_58 rfl) ?_
                  refine xi_iinc (pc' := 168) (x := 2) (v := 3) (lv' := [(6, .int 3), (5, .int 27), (4, .int v59), (9, .int v59), (8, .int v55), (7, .int v52), (0, .ref 115), (2, .int x2), (3, .int x3)]) kc_58_165 rfl rfl rfl rfl (xm_lt ml_58 rfl) ?_
                  refine xi_goto (pc' := 62) kc_58_168 rfl ?_
                  have zc3 : (3 : Int32).toInt = 3 := by decide
                  have zc27 : (27 : Int32).toInt = 27 := by decide
                  refine xw_lv (b := [(0, .ref 115), (2, .int x2), (3, .int x3), (4, .int v59), (5, .int 27), (6, .int 3)]) (lvS_cons (lvS_cons (lvS_cons (lvS_cons (lvS_cons (lvS_cons (lvS_nil (show ([6, 5, 4, 9, 8, 7, 0, 2, 3] : List Nat).Nodup by decide)) rfl) rfl) rfl) rfl) rfl) rfl) ?_
                  exact i13 x2 x3 v59 hh29 (by omega) (by omega) K31 (by omega)
            · refine xi_cmf (pc' := 128) kc_58_125 rfl (xc_le_f (X := v52.toInt) (Y := v55.toInt) rfl rfl (by omega)) ?_
              refine xi_iload (pc' := 130) (x := v52) kc_58_128 rfl rfl ?_
              refine xi_goto (pc' := 135) kc_58_130 rfl ?_
              refine xcps2 (α := Int32) ((v57 : Int32) + v52) (fun v62 ev62 => ?_)
              have rv62 := xc_rng v62
              refine xi_iadd (pc' := 136) (v := v62) kc_58_135 rfl ev62 ?_
              refine xi_istore (pc' := 138) (lv' := [(9, .int v62), (8, .int v55), (7, .int v52), (0, .ref 115), (2, .int x2), (3, .int x3), (4, .int x4), (5, .int 9), (6, .int 2)]) kc_58_136 rfl rfl (xm_lt ml_58 rfl) ?_
              refine xi_iload (pc' := 140) (x := x4) kc_58_138 rfl rfl ?_
              by_cases c63 : x4.toInt < 0
              · refine xi_ift (pc' := 150) kc_58_140 rfl (xc_lt_t (X := x4.toInt) (Y := 0) rfl (by decide) (by omega)) ?_
                refine xi_iload (pc' := 152) (x := v62) kc_58_150 rfl rfl ?_
                refine xi_goto (pc' := 157) kc_58_152 rfl ?_
                refine xi_istore (pc' := 159) (lv' := [(4, .int v62), (9, .int v62), (8, .int v55), (7, .int v52), (0, .ref 115), (2, .int x2), (3, .int x3), (5, .int 9), (6, .int 2)]) kc_58_157 rfl rfl (xm_lt ml_58 rfl) ?_
                refine xi_iload (pc' := 161) (x := 9) kc_58_159 rfl rfl ?_
                refine xi_iconst (pc' := 162) (v := 3) kc_58_161 rfl rfl ?_
                refine xi_imul (pc' := 163) (v := 27) kc_58_162 rfl rfl ?_
                refine xi_istore (pc' := 165) (lv' := [(5, .int 27), (4, .int v62), (9, .int v62), (8, .int v55), (7, .int v52), (0, .ref 115), (2, .int x2), (3, .int x3), (6, .int 2)]) kc_58_163 rfl rfl (xm_lt ml_58 rfl) ?_
                refine xi_iinc (pc' := 168) (x := 2) (v := 3) (lv' := [(6, .int 3), (5, .int 27), (4, .int v62), (9, .int v62), (8, .int v55), (7, .int v52), (0, .ref 115), (2, .int x2), (3, .int x3)]) kc_58_165 rfl rfl rfl rfl (xm_lt ml_58 rfl) ?_
                refine xi_goto (pc' := 62) kc_58_168 rfl ?_
                have zc3 : (3 : Int32).toInt = 3 := by decide
                have zc27 : (27 : Int32).toInt = 27 := by decide
                refine xw_lv (b := [(0, .ref 115), (2, .int x2), (3, .int x3), (4, .int v62), (5, .int 27), (6, .int 3)]) (lvS_cons (lvS_cons (lvS_cons (lvS_cons (lvS_cons (lvS_cons (lvS_nil (show ([6, 5, 4, 9, 8, 7, 0, 2, 3] : List Nat).Nodup by decide)) rfl) rfl) rfl) rfl) rfl) rfl) ?_
                exact i13 x2 x3 v62 hh29 (by omega) (by omega) K31 (by omega)
              · refine xi_iff (pc' := 143) kc_58_140 rfl (xc_lt_f (X := x4.toInt) (Y := 0) rfl (by decide) (by omega)) ?_
                refine xi_iload (pc' := 145) (x := v62) kc_58_143 rfl rfl ?_
                refine xi_iload (pc' := 147) (x := x4) kc_58_145 rfl rfl ?_
                by_cases c64 : x4.toInt ≤ v62.toInt
                · refine xi_cmt (pc' := 155) kc_58_147 rfl (xc_ge_t (X := v62.toInt) (Y := x4.toInt) rfl rfl (by omega)) ?_
                  refine xi_iload (pc' := 157) (x := x4) kc_58_155 rfl rfl ?_
                  refine xi_istore (pc' := 159) (lv' := [(4, .int x4), (9, .int v62), (8, .int v55), (7, .int v52), (0, .ref 115), (2, .int x2), (3, .int x3), (5, .int 9), (6, .int 2)]) kc_58_157 rfl rfl (xm_lt ml_58 rfl) ?_
                  refine xi_iload (pc' := 161) (x := 9) kc_58_159 rfl rfl ?_
                  refine xi_iconst (pc' := 162) (v := 3) kc_58_161 rfl rfl ?_
                  refine xi_imul (pc' := 163) (v := 27) kc_58_162 rfl rfl ?_
                  refine xi_istore (pc' := 165) (lv' := [(5, .int 27), (4, .int x4), (9, .int v62), (8, .int v55), (7, .int v52), (0, .ref 115), (2, .int x2), (3, .int x3), (6, .int 2)]) kc_58_163 rfl rfl (xm_lt ml_58 rfl) ?_
                  refine xi_iinc (pc' := 168) (x := 2) (v := 3) (lv' := [(6, .int 3), (5, .int 27), (4, .int x4), (9, .int v62), (8, .int v55), (7, .int v52), (0, .ref 115), (2, .int x2), (3, .int x3)]) kc_58_165 rfl rfl rfl rfl (xm_lt ml_58 rfl) ?_
                  refine xi_goto (pc' := 62) kc_58_168 rfl ?_
                  have zc3 : (3 : Int32).toInt = 3 := by decide
                  have zc27 : (27 : Int32).toInt = 27 := by decide
                  refine xw_lv (b := [(0, .ref 115), (2, .int x2), (3, .int x3), (4, .int x4), (5, .int 27), (6, .int 3)]) (lvS_cons (lvS_cons (lvS_cons (lvS_cons (lvS_cons (lvS_cons (lvS_nil (show ([6, 5, 4, 9, 8, 7, 0, 2, 3] : List Nat).Nodup by decide)) rfl) rfl) rfl) rfl) rfl) rfl) ?_
                  exact i13 x2 x3 x4 hh29 (by omega) (by omega) K31 (by omega)
                · refine xi_cmf (pc' := 150) kc_58_147 rfl (xc_ge_f (X := v62.toInt) (Y := x4.toInt) rfl rfl (by omega)) ?_
                  refine xi_iload (pc' := 152) (x := v62) kc_58_150 rfl rfl ?_
                  refine xi_goto (pc' := 157) kc_58_152 rfl ?_
                  refine xi_istore (pc' := 159) (lv' := [(4, .int v62), (9, .int v62), (8, .int v55), (7, .int v52), (0, .ref 115), (2, .int x2), (3, .int x3), (5, .int 9), (6, .int 2)]) kc_58_157 rfl rfl (xm_lt ml_58 rfl) ?_
                  refine xi_iload (pc' := 161) (x := 9) kc_58_159 rfl rfl ?_
                  refine xi_iconst (pc' := 162) (v := 3) kc_58_161 rfl rfl ?_
                  refine xi_imul (pc' := 163) (v := 27) kc_58_162 rfl rfl ?_
                  refine xi_istore (pc' := 165) (lv' := [(5, .int 27), (4, .int v62), (9, .int v62), (8, .int v55), (7, .int v52), (0, .ref 115), (2, .int x2), (3, .int x3), (6, .int 2)]) kc_58_163 rfl rfl (xm_lt ml_58 rfl) ?_
                  refine xi_iinc (pc' := 168) (x := 2) (v := 3) (lv' := [(6, .int 3), (5, .int 27), (4, .int v62), (9, .int v62), (8, .int v55), (7, .int v52), (0, .ref 115), (2, .int x2), (3, .int x3)]) kc_58_165 rfl rfl rfl rfl (xm_lt ml_58 rfl) ?_
                  refine xi_goto (pc' := 62) kc_58_168 rfl ?_
                  have zc3 : (3 : Int32).toInt = 3 := by decide
                  have zc27 : (27 : Int32).toInt = 27 := by decide
                  refine xw_lv (b := [(0, .ref 115), (2, .int x2), (3, .int x3), (4, .int v62), (5, .int 27), (6, .int 3)]) (lvS_cons (lvS_cons (lvS_cons (lvS_cons (lvS_cons (lvS_cons (lvS_nil (show ([6, 5, 4, 9, 8, 7, 0, 2, 3] : List Nat).Nodup by decide)) rfl) rfl) rfl) rfl) rfl) rfl) ?_
                  exact i13 x2 x3 v62 hh29 (by omega) (by omega) K31 (by omega)
        · refine xi_ift (pc' := 159) kc_58_77 rfl (xc_ne_t (X := v26.toInt) (Y := 0) rfl (by decide) (by omega)) ?_
          refine xi_iload (pc' := 161) (x := 9) kc_58_159 rfl rfl ?_
          refine xi_iconst (pc' := 162) (v := 3) kc_58_161 rfl rfl ?_
          refine xi_imul (pc' := 163) (v := 27) kc_58_162 rfl rfl ?_
          refine xi_istore (pc' := 165) (lv' := [(5, .int 27), (0, .ref 115), (2, .int x2), (3, .int x3), (4, .int x4), (6, .int 2)]) kc_58_163 rfl rfl (xm_lt ml_58 rfl) ?_
          refine xi_iinc (pc' := 168) (x := 2) (v := 3) (lv' := [(6, .int 3), (5, .int 27), (0, .ref 115), (2, .int x2), (3, .int x3), (4, .int x4)]) kc_58_165 rfl rfl rfl rfl (xm_lt ml_58 rfl) ?_
          refine xi_goto (pc' := 62) kc_58_168 rfl ?_
          have zc3 : (3 : Int32).toInt = 3 := by decide
          have zc27 : (27 : Int32).toInt = 27 := by decide
          refine xw_lv (b := [(0, .ref 115), (2, .int x2), (3, .int x3), (4, .int x4), (5, .int 27), (6, .int 3)]) (lvS_cons (lvS_cons (lvS_cons (lvS_cons (lvS_cons (lvS_cons (lvS_nil (show ([6, 5, 0, 2, 3, 4] : List Nat).Nodup by decide)) rfl) rfl) rfl) rfl) rfl) rfl) ?_
          exact i13 x2 x3 x4 h (by omega) (by omega) K (by omega)
    · intro x2 x3 x4 h b2 b3 K hm
      have rx4 := xc_rng x4
      refine xi_iload (pc' := 64) (x := 3) kc_58_62 rfl rfl ?_
      refine xi_aload_n (pc' := 65) (x := 115) kc_58_64 rfl rfl ?_
      refine xp_115 K.1 (fun u1 u2 u3 u4 u5 u6 u7 u8 u9 u10 u11 u12 u13 bu1 bu2 bu3 bu4 bu5 bu6 bu7 bu8 bu9 bu10 bu11 bu12 bu13 A14 => ?_)
      refine xi_getfield (pc' := 68) (v := .int u10) kc_58_65 rfl rfl rfl A14 rfl ?_
      by_cases c15 : u10.toInt ≤ 3
      · refine xi_cmt (pc' := 171) kc_58_68 rfl (xc_ge_t (X := 3) (Y := u10.toInt) (by decide) rfl (by omega)) ?_
        refine xi_aload_n (pc' := 172) (x := 115) kc_58_171 rfl rfl ?_
        refine xi_getfield (pc' := 175) (v := .ref 155) kc_58_172 rfl rfl rfl A14 rfl ?_
        refine xi_iload_n (pc' := 176) (x := x3) kc_58_175 rfl rfl ?_
        refine xi_iload (pc' := 178) (x := x4) kc_58_176 rfl rfl ?_
        by_cases c16 : 0 ≤ x4.toInt
        · refine xi_ift (pc' := 185) kc_58_178 rfl (xc_ge_t (X := x4.toInt) (Y := 0) rfl (by decide) (by omega)) ?_
          refine xi_iload (pc' := 187) (x := x4) kc_58_185 rfl rfl ?_
          refine xcps4 (xk_arr K.1 xD_155) (fun y17 A17 hy17 ry17 => ?_)
          refine xcps4 (xj_set (v := x4) hy17 ry17 x3 (by first | omega | decide) (by first | omega | decide)) (fun y18 s18 hy18 ry18 => ?_)
          refine xi_iastore (pc' := 188) (x' := y18) kc_58_187 rfl A17 rfl (xi_in (by omega) (by rw [hy17]; omega)) s18 (fun hh18 eh18 => ?_)
          have K19 := xk_pa K (xk_wa rfl) xD_155 hy18 ry18 eh18
          refine xcps2 (α := Int32) (x3 + (-1)) (fun v20 ev20 => ?_)
          have zv20 : v20.toInt = (x3.toInt + (-1)) := by rw [← ev20]; exact (xz_add (X := x3.toInt) (Y := (-1)) rfl (by decide) (by omega) (by omega)).trans (by omega)
          refine xi_iinc (pc' := 191) (x := x3) (v := v20) (lv' := [(3, .int v20), (0, .ref 115), (2, .int x2), (4, .int x4), (5, .int 27), (6, .int 3)]) kc_58_188 rfl rfl ev20 rfl (xm_lt ml_58 rfl) ?_
          refine xi_goto (pc' := 48) kc_58_191 rfl ?_
          refine xw_lv (b := [(0, .ref 115), (2, .int x2), (3, .int v20)]) (lvS_cons (lvS_cons (lvS_cons (lvS_nil (show ([3, 0, 2, 4, 5, 6] : List Nat).Nodup by decide)) rfl) rfl) rfl) ?_
          exact i9 x2 v20 hh18 (by omega) (by omega) K19 (by omega)
        · refine xi_iff (pc' := 181) kc_58_178 rfl (xc_ge_f (X := x4.toInt) (Y := 0) rfl (by decide) (by omega)) ?_
          refine xi_iconst (pc' := 182) (v := 0) kc_58_181 rfl rfl ?_
          refine xi_goto (pc' := 187) kc_58_182 rfl ?_
          refine xcps4 (xk_arr K.1 xD_155) (fun y21 A21 hy21 ry21 => ?_)
          refine xcps4 (xj_set (v := 0) hy21 ry21 x3 (by first | omega | decide) (by first | omega | decide)) (fun y22 s22 hy22 ry22 => ?_)
          refine xi_iastore (pc' := 188) (x' := y22) kc_58_187 rfl A21 rfl (xi_in (by omega) (by rw [hy21]; omega)) s22 (fun hh22 eh22 => ?_)
          have K23 := xk_pa K (xk_wa rfl) xD_155 hy22 ry22 eh22
          refine xcps2 (α := Int32) (x3 + (-1)) (fun v24 ev24 => ?_)
          have zv24 : v24.toInt = (x3.toInt + (-1)) := by rw [← ev24]; exact (xz_add (X := x3.toInt) (Y := (-1)) rfl (by decide) (by omega) (by omega)).trans (by omega)
          refine xi_iinc (pc' := 191) (x := x3) (v := v24) (lv' := [(3, .int v24), (0, .ref 115), (2, .int x2), (4, .int x4), (5, .int 27), (6, .int 3)]) kc_58_188 rfl rfl ev24 rfl (xm_lt ml_58 rfl) ?_
          refine xi_goto (pc' := 48) kc_58_191 rfl ?_
          refine xw_lv (b := [(0, .ref 115), (2, .int x2), (3, .int v24)]) (lvS_cons (lvS_cons (lvS_cons (lvS_nil (show ([3, 0, 2, 4, 5, 6] : List Nat).Nodup by decide)) rfl) rfl) rfl) ?_
          exact i9 x2 v24 hh22 (by omega) (by omega) K23 (by omega)
      · refine xi_cmf (pc' := 71) kc_58_68 rfl (xc_ge_f (X := 3) (Y := u10.toInt) (by decide) rfl (by omega)) ?_
        refine xi_iload_n (pc' := 72) (x := x3) kc_58_71 rfl rfl ?_
        refine xi_iload (pc' := 74) (x := 27) kc_58_72 rfl rfl ?_
        refine xcps2 (α := Int32) (x3 / 27) (fun v25 ev25 => ?_)
        have dv25 : v25.toInt = x3.toInt / 27 := by rw [← ev25]; exact xz_dive (X := x3.toInt) (Y := 27) rfl (by decide) (by omega) (by decide)
        have bv25 : 0 ≤ v25.toInt ∧ v25.toInt ≤ 242 := by omega
        refine xi_idiv (pc' := 75) (v := v25) kc_58_74 rfl ev25 (by decide) ?_
        refine xi_iconst (pc' := 76) (v := 3) kc_58_75 rfl rfl ?_
        refine xcps2 (α := Int32) (v25 - v25 / 3 * 3) (fun v26 ev26 => ?_)
        have dv26 : v26.toInt = v25.toInt % 3 := by rw [← ev26]; exact xz_reme (X := v25.toInt) (Y := 3) rfl (by decide) (by omega) (by decide)
        have bv26 : 0 ≤ v26.toInt ∧ v26.toInt ≤ 2 := by omega
        refine xi_irem (pc' := 77) (v := v26) kc_58_76 rfl ev26 (by decide) ?_
        by_cases c27 : v26.toInt = 0
        · refine xi_iff (pc' := 80) kc_58_77 rfl (xc_ne_f (X := v26.toInt) (Y := 0) rfl (by decide) (by omega)) ?_
          refine xi_aload_n (pc' := 81) (x := 115) kc_58_80 rfl rfl ?_
          refine xi_iload_n (pc' := 82) (x := x3) kc_58_81 rfl rfl ?_
          refine xi_iload (pc' := 84) (x := 3) kc_58_82 rfl rfl ?_
          refine xi_virtual (mj := 59) (as := [.int x3, .int 3]) (st1 := []) (lv0 := [(0, .ref 115), (1, .int x3), (2, .int 3)]) kc_58_84 rfl rfl rfl rfl rfl A14 (Nat.le_of_ble_eq_true rfl) (hJ _ _ _ _ (by decide)) (xm_le ml_59 rfl) rfl ?_
          have zc3 : (3 : Int32).toInt = 3 := by decide
          refine mt_59_0 hJ hov1 hov2 (d := d + 3) (x1 := x3) (x2 := 3) K.1 (by first | omega | decide) (by first | omega | decide) (fun r28 hh29 br28 K30 => ?_)
          have K31 := xk_tr K K30 rfl
          refine xp_115 K31.1 (fun u32 u33 u34 u35 u36 u37 u38 u39 u40 u41 u42 u43 u44 bu32 bu33 bu34 bu35 bu36 bu37 bu38 bu39 bu40 bu41 bu42 bu43 bu44 A45 => ?_)
          have e46 : u2 = u33 := xk_eqi (q := 1) K30 rfl A14 A45 rfl rfl
          subst e46
          have e47 : u5 = u36 := xk_eqi (q := 23) K30 rfl A14 A45 rfl rfl
          subst e47
          show xw J ov (d + 7) 58 (87, [(0, .ref 115), (2, .int x2), (3, .int x3), (4, .int x4), (5, .int 27), (6, .int 3)], [.int r28], hh29) _
          by_cases c48 : r28.toInt = 0
          · refine xi_ift (pc' := 159) kc_58_87 rfl (xc_eq_t (X := r28.toInt) (Y := 0) rfl (by decide) (by omega)) ?_
            refine xi_iload (pc' := 161) (x := 27) kc_58_159 rfl rfl ?_
            refine xi_iconst (pc' := 162) (v := 3) kc_58_161 rfl rfl ?_
            refine xi_imul (pc' := 163) (v := 81) kc_58_162 rfl rfl ?_
            refine xi_istore (pc' := 165) (lv' := [(5, .int 81), (0, .ref 115), (2, .int x2), (3, .int x3), (4, .int x4), (6, .int 3)]) kc_58_163 rfl rfl (xm_lt ml_58 rfl) ?_
            refine xi_iinc (pc' := 168) (x := 3) (v := 4) (lv' := [(6, .int 4), (5, .int 81), (0, .ref 115), (2, .int x2), (3, .int x3), (4, .int x4)]) kc_58_165 rfl rfl rfl rfl (xm_lt ml_58 rfl) ?_
            refine xi_goto (pc' := 62) kc_58_168 rfl ?_
            have zc4 : (4 : Int32).toInt = 4 := by decide
            have zc81 : (81 : Int32).toInt = 81 := by decide
            refine xw_lv (b := [(0, .ref 115), (2, .int x2), (3, .int x3), (4, .int x4), (5, .int 81), (6, .int 4)]) (lvS_cons (lvS_cons (lvS_cons (lvS_cons (lvS_cons (lvS_cons (lvS_nil (show ([6, 5, 0, 2, 3, 4] : List Nat).Nodup by decide)) rfl) rfl) rfl) rfl) rfl) rfl) ?_
            exact i14 x2 x3 x4 hh29 (by omega) (by omega) K31 (by omega)
          · refine xi_iff (pc' := 90) kc_58_87 rfl (xc_eq_f (X := r28.toInt) (Y := 0) rfl (by decide) (by omega)) ?_
            refine xi_aload_n (pc' := 91) (x := 115) kc_58_90 rfl rfl ?_
            refine xi_getfield (pc' := 94) (v := .ref 155) kc_58_91 rfl rfl rfl A45 rfl ?_
            refine xi_iload_n (pc' := 95) (x := x3) kc_58_94 rfl rfl ?_
            refine xi_iload (pc' := 97) (x := 27) kc_58_95 rfl rfl ?_
            refine xcps2 (α := Int32) (x3 + 27) (fun v49 ev49 => ?_)
            have zv49 : v49.toInt = (x3.toInt + 27) := by rw [← ev49]; exact (xz_add (X := x3.toInt) (Y := 27) rfl (by decide) (by omega) (by omega)).trans (by omega)
            refine xi_iadd (pc' := 98) (v := v49) kc_58_97 rfl ev49 ?_
            have t50 : (-27) ≤ x3.toInt ∧ x3.toInt ≤ 6533 := by omega
            refine xcps4 (xk_arr K31.1 xD_155) (fun y51 A51 hy51 ry51 => ?_)
            refine xcps4 (xj_get hy51 ry51 (i := v49) (by rw [zv49]; omega) (by rw [zv49]; omega)) (fun v52 ev52 bv52 dv52 => ?_)
            refine xi_iaload (pc' := 99) (v := v52) kc_58_98 rfl A51 (by decide) rfl (xi_in (by rw [zv49]; omega) (by rw [hy51]; rw [zv49]; omega)) ev52 ?_
            refine xi_istore (pc' := 101) (lv' := [(7, .int v52), (0, .ref 115), (2, .int x2), (3, .int x3), (4, .int x4), (5, .int 27), (6, .int 3)]) kc_58_99 rfl rfl (xm_lt ml_58 rfl) ?_
            refine xi_aload_n (pc' := 102) (x := 115) kc_58_101 rfl rfl ?_
            refine xi_getfield (pc' := 105) (v := .ref 155) kc_58_102 rfl rfl rfl A45 rfl ?_
            refine xi_iload_n (pc' := 106) (x := x3) kc_58_105 rfl rfl ?_
            refine xi_iconst (pc' := 107) (v := 2) kc_58_106 rfl rfl ?_
            refine xi_iload (pc' := 109) (x := 27) kc_58_107 rfl rfl ?_
            refine xi_imul (pc' := 110) (v := 54) kc_58_109 rfl rfl ?_
            refine xcps2 (α := Int32) (x3 + 54) (fun v53 ev53 => ?_)
            have zv53 : v53.toInt = (x3.toInt + 54) := by rw [← ev53]; exact (xz_add (X := x3.toInt) (Y := 54) rfl (by decide) (by omega) (by omega)).trans (by omega)
            refine xi_iadd (pc' := 111) (v := v53) kc_58_110 rfl ev53 ?_
            have t54 : (-54) ≤ x3.toInt ∧ x3.toInt ≤ 6506 := by omega
            refine xcps4 (xj_get hy51 ry51 (i := v53) (by rw [zv53]; omega) (by rw [zv53]; omega)) (fun v55 ev55 bv55 dv55 => ?_)
            refine xi_iaload (pc' := 112) (v := v55) kc_58_111 rfl A51 (by decide) rfl (xi_in (by rw [zv53]; omega) (by rw [hy51]; rw [zv53]; omega)) ev55 ?_
            refine xi_istore (pc' := 114) (lv' := [(8, .int v55), (7, .int v52), (0, .ref 115), (2, .int x2), (3, .int x3), (4, .int x4), (5, .int 27), (6, .int 3)]) kc_58_112 rfl rfl (xm_lt ml_58 rfl) ?_
            refine xi_aload_n (pc' := 115) (x := 115) kc_58_114 rfl rfl ?_
            refine xi_getfield (pc' := 118) (v := .ref 153) kc_58_115 rfl rfl rfl A45 rfl ?_
            refine xi_iload (pc' := 120) (x := 3) kc_58_118 rfl rfl ?_
            refine xcps4 (xk_arr K31.1 xD_153) (fun y56 A56 hy56 ry56 => ?_)
            refine xcps4 (xj_get hy56 ry56 (i := 3) (by decide) (by decide)) (fun v57 ev57 bv57 dv57 => ?_)
            refine xi_iaload (pc' := 121) (v := v57) kc_58_120 rfl A56 (by decide) rfl (xi_in (by decide) (by rw [hy56]; decide)) ev57 ?_
            refine xi_iload (pc' := 123) (x := v52) kc_58_121 rfl rfl ?_
            refine xi_iload (pc' := 125) (x := v55) kc_58_123 rfl rfl ?_
            by_cases c58 : v52.toInt ≤ v55.toInt
            · refine xi_cmt (pc' := 133) kc_58_125 rfl (xc_le_t (X := v52.toInt) (Y := v55.toInt) rfl rfl (by omega)) ?_
              refine xi_iload (pc' := 135) (x := v55) kc_58_133 rfl rfl ?_
              refine xcps2 (α := Int32) ((v57 : Int32) + v55) (fun v59 ev59 => ?_)
              have rv59 := xc_rng v59
              refine xi_iadd (pc' := 136) (v := v59) kc_58_135 rfl ev59 ?_
              refine xi_istore (pc' := 138) (lv' := [(9, .int v59), (8, .int v55), (7, .int v52), (0, .ref 115), (2, .int x2), (3, .int x3), (4, .int x4), (5, .int 27), (6, .int 3)]) kc_58_136 rfl rfl (xm_lt ml_58 rfl) ?_
              refine xi_iload (pc' := 140) (x := x4) kc_58_138 rfl rfl ?_
              by_cases c60 : x4.toInt < 0
              · refine xi_ift (pc' := 150) kc_58_140 rfl (xc_lt_t (X := x4.toInt) (Y := 0) rfl (by decide) (by omega)) ?_
                refine xi_iload (pc' := 152) (x := v59) kc_58_150 rfl rfl ?_
                refine xi_goto (pc' := 157) kc_58_152 rfl ?_
                refine xi_istore (pc' := 159) (lv' := [(4, .int v59), (9, .int v59), (8, .int v55), (7, .int v52), (0, .ref 115), (2, .int x2), (3, .int x3), (5, .int 27), (6, .int 3)]) kc_58_157 rfl rfl (xm_lt ml_58 rfl) ?_
                refine xi_iload (pc' := 161) (x := 27) kc_58_159 rfl rfl ?_
                refine xi_iconst (pc' := 162) (v := 3) kc_58_161 rfl rfl ?_
                refine xi_imul (pc' := 163) (v := 81) kc_58_162 rfl rfl ?_
                refine xi_istore (pc' := 165) (lv' := [(5, .int 81), (4, .int v59), (9, .int v59), (8, .int v55), (7, .int v52), (0, .ref 115), (2, .int x2), (3, .int x3), (6, .int 3)]) kc_58_163 rfl rfl (xm_lt ml_58 rfl) ?_
                refine xi_iinc (pc' := 168) (x := 3) (v := 4) (lv' := [(6, .int 4), (5, .int 81), (4, .int v59), (9, .int v59), (8, .int v55), (7, .int v52), (0, .ref 115), (2, .int x2), (3, .int x3)]) kc_58_165 rfl rfl rfl rfl (xm_lt ml_58 rfl) ?_
                refine xi_goto (pc' := 62) kc_58_168 rfl ?_
                have zc4 : (4 : Int32).toInt = 4 := by decide
                have zc81 : (81 : Int32).toInt = 81 := by decide
                refine xw_lv (b := [(0, .ref 115), (2, .int x2), (3, .int x3), (4, .int v59), (5, .int 81), (6, .int 4)]) (lvS_cons (lvS_cons (lvS_cons (lvS_cons (lvS_cons (lvS_cons (lvS_nil (show ([6, 5, 4, 9, 8, 7, 0, 2, 3] : List Nat).Nodup by decide)) rfl) rfl) rfl) rfl) rfl) rfl) ?_
                exact i14 x2 x3 v59 hh29 (by omega) (by omega) K31 (by omega)
              · refine xi_iff (pc' := 143) kc_58_140 rfl (xc_lt_f (X := x4.toInt) (Y := 0) rfl (by decide) (by omega)) ?_
                refine xi_iload (pc' := 145) (x := v59) kc_58_143 rfl rfl ?_
                refine xi_iload (pc' := 147) (x := x4) kc_58_145 rfl rfl ?_
                by_cases c61 : x4.toInt ≤ v59.toInt
                · refine xi_cmt (pc' := 155) kc_58_147 rfl (xc_ge_t (X := v59.toInt) (Y := x4.toInt) rfl rfl (by omega)) ?_
                  refine xi_iload (pc' := 157) (x := x4) kc_58_155 rfl rfl ?_
                  refine xi_istore (pc' := 159) (lv' := [(4, .int x4), (9, .int v59), (8, .int v55), (7, .int v52), (0, .ref 115), (2, .int x2), (3, .int x3), (5, .int 27), (6, .int 3)]) kc_58_157 rfl rfl (xm_lt ml_58 rfl) ?_
                  refine xi_iload (pc' := 161) (x := 27) kc_58_159 rfl rfl ?_
                  refine xi_iconst (pc' := 162) (v := 3) kc_58_161 rfl rfl ?_
                  refine xi_imul (pc' := 163) (v := 81) kc_58_162 rfl rfl ?_
                  refine xi_istore (pc' := 165) (lv' := [(5, .int 81), (4, .int x4), (9, .int v59), (8, .int v55), (7, .int v52), (0, .ref 115), (2, .int x2), (3, .int x3), (6, .int 3)]) kc_58_163 rfl rfl (xm_lt ml_58 rfl) ?_
                  refine xi_iinc (pc' := 168) (x := 3) (v := 4) (lv' := [(6, .int 4), (5, .int 81), (4, .int x4), (9, .int v59), (8, .int v55), (7, .int v52), (0, .ref 115), (2, .int x2), (3, .int x3)]) kc_58_165 rfl rfl rfl rfl (xm_lt ml_58 rfl) ?_
                  refine xi_goto (pc' := 62) kc_58_168 rfl ?_
                  have zc4 : (4 : Int32).toInt = 4 := by decide
                  have zc81 : (81 : Int32).toInt = 81 := by decide
                  refine xw_lv (b := [(0, .ref 115), (2, .int x2), (3, .int x3), (4, .int x4), (5, .int 81), (6, .int 4)]) (lvS_cons (lvS_cons (lvS_cons (lvS_cons (lvS_cons (lvS_cons (lvS_nil (show ([6, 5, 4, 9, 8, 7, 0, 2, 3] : List Nat).Nodup by decide)) rfl) rfl) rfl) rfl) rfl) rfl) ?_
                  exact i14 x2 x3 x4 hh29 (by omega) (by omega) K31 (by omega)
                · refine xi_cmf (pc' := 150) kc_58_147 rfl (xc_ge_f (X := v59.toInt) (Y := x4.toInt) rfl rfl (by omega)) ?_
                  refine xi_iload (pc' := 152) (x := v59) kc_58_150 rfl rfl ?_
                  refine xi_goto (pc' := 157) kc_58_152 rfl ?_
                  refine xi_istore (pc' := 159) (lv' := [(4, .int v59), (9, .int v59), (8, .int v55), (7, .int v52), (0, .ref 115), (2, .int x2), (3, .int x3), (5, .int 27), (6, .int 3)]) kc_58_157 rfl rfl (xm_lt ml_58 rfl) ?_
                  refine xi_iload (pc' := 161) (x := 27) kc_58_159 rfl rfl ?_
                  refine xi_iconst (pc' := 162) (v := 3) kc_58_161 rfl rfl ?_
                  refine xi_imul (pc' := 163) (v := 81) kc_58_162 rfl rfl ?_
                  refine xi_istore (pc' := 165) (lv' := [(5, .int 81), (4, .int v59), (9, .int v59), (8, .int v55), (7, .int v52), (0, .ref 115), (2, .int x2), (3, .int x3), (6, .int 3)]) kc_58_163 rfl rfl (xm_lt ml_58 rfl) ?_
                  refine xi_iinc (pc' := 168) (x := 3) (v := 4) (lv' := [(6, .int 4), (5, .int 81), (4, .int v59), (9, .int v59), (8, .int v55), (7, .int v52), (0, .ref 115), (2, .int x2), (3, .int x3)]) kc_58_165 rfl rfl rfl rfl (xm_lt ml_58 rfl) ?_
                  refine xi_goto (pc' := 62) kc_58_168 rfl ?_
                  have zc4 : (4 : Int32).toInt = 4 := by decide
                  have zc81 : (81 : Int32).toInt = 81 := by decide
                  refine xw_lv (b := [(0, .ref 115), (2, .int x2), (3, .int x3), (4, .int v59), (5, .int 81), (6, .int 4)]) (lvS_cons (lvS_cons (lvS_cons (lvS_cons (lvS_cons (lvS_cons (lvS_nil (show ([6, 5, 4, 9, 8, 7, 0, 2, 3] : List Nat).Nodup by decide)) rfl) rfl) rfl) rfl) rfl) rfl) ?_
                  exact i14 x2 x3 v59 hh29 (by omega) (by omega) K31 (by omega)
            · refine xi_cmf (pc' := 128) kc_58_125 rfl (xc_le_f (X := v52.toInt) (Y := v55.toInt) rfl rfl (by omega)) ?_
              refine xi_iload (pc' := 130) (x := v52) kc_58_128 rfl rfl ?_
              refine xi_goto (pc' := 135) kc_58_130 rfl ?_
              refine xcps2 (α := Int32) ((v57 : Int32) + v52) (fun v62 ev62 => ?_)
              have rv62 := xc_rng v62
              refine xi_iadd (pc' := 136) (v := v62) kc_58_135 rfl ev62 ?_
              refine xi_istore (pc' := 138) (lv' := [(9, .int v62), (8, .int v55), (7, .int v52), (0, .ref 115), (2, .int x2), (3, .int x3), (4, .int x4), (5, .int 27), (6, .int 3)]) kc_58_136 rfl rfl (xm_lt ml_58 rfl) ?_
              refine xi_iload (pc' := 140) (x := x4) kc_58_138 rfl rfl ?_
              by_cases c63 : x4.toInt < 0
              · refine xi_ift (pc' := 150) kc_58_140 rfl (xc_lt_t (X := x4.toInt) (Y := 0) rfl (by decide) (by omega)) ?_
                refine xi_iload (pc' := 152) (x := v62) kc_58_150 rfl rfl ?_
                refine xi_goto (pc' := 157) kc_58_152 rfl ?_
                refine xi_istore (pc' := 159) (lv' := [(4, .int v62), (9, .int v62), (8, .int v55), (7, .int v52), (0, .ref 115), (2, .int x2), (3, .int x3), (5, .int 27), (6, .int 3)]) kc_58_157 rfl rfl (xm_lt ml_58 rfl) ?_
                refine xi_iload (pc' := 161) (x := 27) kc_58_159 rfl rfl ?_
                refine xi_iconst (pc' := 162) (v := 3) kc_58_161 rfl rfl ?_
                refine xi_imul (pc' := 163) (v := 81) kc_58_162 rfl rfl ?_
                refine xi_istore (pc' := 165) (lv' := [(5, .int 81), (4, .int v62), (9, .int v62), (8, .int v55), (7, .int v52), (0, .ref 115), (2, .int x2), (3, .int x3), (6, .int 3)]) kc_58_163 rfl rfl (xm_lt ml_58 rfl) ?_
                refine xi_iinc (pc' := 168) (x := 3) (v := 4) (lv' := [(6, .int 4), (5, .int 81), (4, .int v62), (9, .int v62), (8, .int v55), (7, .int v52), (0, .ref 115), (2, .int x2), (3, .int x3)]) kc_58_165 rfl rfl rfl rfl (xm_lt ml_58 rfl) ?_
                refine xi_goto (pc' := 62) kc_58_168 rfl ?_
                have zc4 : (4 : Int32).toInt = 4 := by decide
                have zc81 : (81 : Int32).toInt = 81 := by decide
                refine xw_lv (b := [(0, .ref 115), (2, .int x2), (3, .int x3), (4, .int v62), (5, .int 81), (6, .int 4)]) (lvS_cons (lvS_cons (lvS_cons (lvS_cons (lvS_cons (lvS_cons (lvS_nil (show ([6, 5, 4, 9, 8, 7, 0, 2, 3] : List Nat).Nodup by decide)) rfl) rfl) rfl) rfl) rfl) rfl) ?_
                exact i14 x2 x3 v62 hh29 (by omega) (by omega) K31 (by omega)
              · refine xi_iff (pc' := 143) kc_58_140 rfl (xc_lt_f (X := x4.toInt) (Y := 0) rfl (by decide) (by omega)) ?_
                refine xi_iload (pc' := 145) (x := v62) kc_58_143 rfl rfl ?_
                refine xi_iload (pc' := 147) (x := x4) kc_58_145 rfl rfl ?_
                by_cases c64 : x4.toInt ≤ v62.toInt
                · refine xi_cmt (pc' := 155) kc_58_147 rfl (xc_ge_t (X := v62.toInt) (Y := x4.toInt) rfl rfl (by omega)) ?_
                  refine xi_iload (pc' := 157) (x := x4) kc_58_155 rfl rfl ?_
                  refine xi_istore (pc' := 159) (lv' := [(4, .int x4), (9, .int v62), (8, .int v55), (7, .int v52), (0, .ref 115), (2, .int x2), (3, .int x3), (5, .int 27), (6, .int 3)]) kc_58_157 rfl rfl (xm_lt ml_58 rfl) ?_
                  refine xi_iload (pc' := 161) (x := 27) kc_58_159 rfl rfl ?_
                  refine xi_iconst (pc' := 162) (v := 3) kc_58_161 rfl rfl ?_
                  refine xi_imul (pc' := 163) (v := 81) kc_58_162 rfl rfl ?_
                  refine xi_istore (pc' := 165) (lv' := [(5, .int 81), (4, .int x4), (9, .int v62), (8, .int v55), (7, .int v52), (0, .ref 115), (2, .int x2), (3, .int x3), (6, .int 3)]) kc_58_163 rfl rfl (xm_lt ml_58 rfl) ?_
                  refine xi_iinc (pc' := 168) (x := 3) (v := 4) (lv' := [(6, .int 4), (5, .int 81), (4, .int x4), (9, .int v62), (8, .int v55), (7, .int v52), (0, .ref 115), (2, .int x2), (3, .int x3)]) kc_58_165 rfl rfl rfl rfl (xm_lt ml_58 rfl) ?_
                  refine xi_goto (pc' := 62) kc_58_168 rfl ?_
                  have zc4 : (4 : Int32).toInt = 4 := by decide
                  have zc81 : (81 : Int32).toInt = 81 := by decide
                  refine xw_lv (b := [(0, .ref 115), (2, .int x2), (3, .int x3), (4, .int x4), (5, .int 81), (6, .int 4)]) (lvS_cons (lvS_cons (lvS_cons (lvS_cons (lvS_cons (lvS_cons (lvS_nil (show ([6, 5, 4, 9, 8, 7, 0, 2, 3] : List Nat).Nodup by decide)) rfl) rfl) rfl) rfl) rfl) rfl) ?_
                  exact i14 x2 x3 x4 hh29 (by omega) (by omega) K31 (by omega)
                · refine xi_cmf (pc' := 150) kc_58_147 rfl (xc_ge_f (X := v62.toInt) (Y := x4.toInt) rfl rfl (by omega)) ?_
                  refine xi_iload (pc' := 152) (x := v62) kc_58_150 rfl rfl ?_
                  refine xi_goto (pc' := 157) kc_58_152 rfl ?_
                  refine xi_istore (pc' := 159) (lv' := [(4, .int v62), (9, .int v62), (8, .int v55), (7, .int v52), (0, .ref 115), (2, .int x2), (3, .int x3), (5, .int 27), (6, .int 3)]) kc_58_157 rfl rfl (xm_lt ml_58 rfl) ?_
                  refine xi_iload (pc' := 161) (x := 27) kc_58_159 rfl rfl ?_
                  refine xi_iconst (pc' := 162) (v := 3) kc_58_161 rfl rfl ?_
                  refine xi_imul (pc' := 163) (v := 81) kc_58_162 rfl rfl ?_
                  refine xi_istore (pc' := 165) (lv' := [(5, .int 81), (4, .int v62), (9, .int v62), (8, .int v55), (7, .int v52), (0, .ref 115), (2, .int x2), (3, .int x3), (6, .int 3)]) kc_58_163 rfl rfl (xm_lt ml_58 rfl) ?_
                  refine xi_iinc (pc' := 168) (x := 3) (v := 4) (lv' := [(6, .int 4), (5, .int 81), (4, .int v62), (9, .int v62), (8, .int v55), (7, .int v52), (0, .ref 115), (2, .int x2), (3, .int x3)]) kc_58_165 rfl rfl rfl rfl (xm_lt ml_58 rfl) ?_
                  refine xi_goto (pc' := 62) kc_58_168 rfl ?_
                  have zc4 : (4 : Int32).toInt = 4 := by decide
                  have zc81 : (81 : Int32).toInt = 81 := by decide
                  refine xw_lv (b := [(0, .ref 115), (2, .int x2), (3, .int x3), (4, .int v62), (5, .int 81), (6, .int 4)]) (lvS_cons (lvS_cons (lvS_cons (lvS_cons (lvS_cons (lvS_cons (lvS_nil (show ([6, 5, 4, 9, 8, 7, 0, 2, 3] : List Nat).Nodup by decide)) rfl) rfl) rfl) rfl) rfl) rfl) ?_
                  exact i14 x2 x3 v62 hh29 (by omega) (by omega) K31 (by omega)
        · refine xi_ift (pc' := 159) kc_58_77 rfl (xc_ne_t (X := v26.toInt) (Y := 0) rfl (by decide) (by omega)) ?_
          refine xi_iload (pc' := 161) (x := 27) kc_58_159 rfl rfl ?_
          refine xi_iconst (pc' := 162) (v := 3) kc_58_161 rfl rfl ?_
          refine xi_imul (pc' := 163) (v := 81) kc_58_162 rfl rfl ?_
          refine xi_istore (pc' := 165) (lv' := [(5, .int 81), (0, .ref 115), (2, .int x2), (3, .int x3), (4, .int x4), (6, .int 3)]) kc_58_163 rfl rfl (xm_lt ml_58 rfl) ?_
          refine xi_iinc (pc' := 168) (x := 3) (v := 4) (lv' := [(6, .int 4), (5, .int 81), (0, .ref 115), (2, .int x2), (3, .int x3), (4, .int x4)]) kc_58_165 rfl rfl rfl rfl (xm_lt ml_58 rfl) ?_
          refine xi_goto (pc' := 62) kc_58_168 rfl ?_
          have zc4 : (4 : Int32).toInt = 4 := by decide
          have zc81 : (81 : Int32).toInt = 81 := by decide
          refine xw_lv (b := [(0, .ref 115), (2, .int x2), (3, .int x3), (4, .int x4), (5, .int 81), (6, .int 4)]) (lvS_cons (lvS_cons (lvS_cons (lvS_cons (lvS_cons (lvS_cons (lvS_nil (show ([6, 5, 0, 2, 3, 4] : List Nat).Nodup by decide)) rfl) rfl) rfl) rfl) rfl) rfl) ?_
          exact i14 x2 x3 x4 h (by omega) (by omega) K (by omega)
    · intro x2 x3 x4 h b2 b3 K hm
      have rx4 := xc_rng x4
      refine xi_iload (pc' := 64) (x := 4) kc_58_62 rfl rfl ?_
      refine xi_aload_n (pc' := 65) (x := 115) kc_58_64 rfl rfl ?_
      refine xp_115 K.1 (fun u1 u2 u3 u4 u5 u6 u7 u8 u9 u10 u11 u12 u13 bu1 bu2 bu3 bu4 bu5 bu6 bu7 bu8 bu9 bu10 bu11 bu12 bu13 A14 => ?_)
      refine xi_getfield (pc' := 68) (v := .int u10) kc_58_65 rfl rfl rfl A14 rfl ?_
      by_cases c15 : u10.toInt ≤ 4
      · refine xi_cmt (pc' := 171) kc_58_68 rfl (xc_ge_t (X := 4) (Y := u10.toInt) (by decide) rfl (by omega)) ?_
        refine xi_aload_n (pc' := 172) (x := 115) kc_58_171 rfl rfl ?_
        refine xi_getfield (pc' := 175) (v := .ref 155) kc_58_172 rfl rfl rfl A14 rfl ?_
        refine xi_iload_n (pc' := 176) (x := x3) kc_58_175 rfl rfl ?_
        refine xi_iload (pc' := 178) (x := x4) kc_58_176 rfl rfl ?_
        by_cases c16 : 0 ≤ x4.toInt
        · refine xi_ift (pc' := 185) kc_58_178 rfl (xc_ge_t (X := x4.toInt) (Y := 0) rfl (by decide) (by omega)) ?_
          refine xi_iload (pc' := 187) (x := x4) kc_58_185 rfl rfl ?_
          refine xcps4 (xk_arr K.1 xD_155) (fun y17 A17 hy17 ry17 => ?_)
          refine xcps4 (xj_set (v := x4) hy17 ry17 x3 (by first | omega | decide) (by first | omega | decide)) (fun y18 s18 hy18 ry18 => ?_)
          refine xi_iastore (pc' := 188) (x' := y18) kc_58_187 rfl A17 rfl (xi_in (by omega) (by rw [hy17]; omega)) s18 (fun hh18 eh18 => ?_)
          have K19 := xk_pa K (xk_wa rfl) xD_155 hy18 ry18 eh18
          refine xcps2 (α := Int32) (x3 + (-1)) (fun v20 ev20 => ?_)
          have zv20 : v20.toInt = (x3.toInt + (-1)) := by rw [← ev20]; exact (xz_add (X := x3.toInt) (Y := (-1)) rfl (by decide) (by omega) (by omega)).trans (by omega)
          refine xi_iinc (pc' := 191) (x := x3) (v := v20) (lv' := [(3, .int v20), (0, .ref 115), (2, .int x2), (4, .int x4), (5, .int 81), (6, .int 4)]) kc_58_188 rfl rfl ev20 rfl (xm_lt ml_58 rfl) ?_
          refine xi_goto (pc' := 48) kc_58_191 rfl ?_
          refine xw_lv (b := [(0, .ref 115), (2, .int x2), (3, .int v20)]) (lvS_cons (lvS_cons (lvS_cons (lvS_nil (show ([3, 0, 2, 4, 5, 6] : List Nat).Nodup by decide)) rfl) rfl) rfl) ?_
          exact i9 x2 v20 hh18 (by omega) (by omega) K19 (by omega)
        · refine xi_iff (pc' := 181) kc_58_178 rfl (xc_ge_f (X := x4.toInt) (Y := 0) rfl (by decide) (by omega)) ?_
          refine xi_iconst (pc' := 182) (v := 0) kc_58_181 rfl rfl ?_
          refine xi_goto (pc' := 187) kc_58_182 rfl ?_
          refine xcps4 (xk_arr K.1 xD_155) (fun y21 A21 hy21 ry21 => ?_)
          refine xcps4 (xj_set (v := 0) hy21 ry21 x3 (by first | omega | decide) (by first | omega | decide)) (fun y22 s22 hy22 ry22 => ?_)
          refine xi_iastore (pc' := 188) (x' := y22) kc_58_187 rfl A21 rfl (xi_in (by omega) (by rw [hy21]; omega)) s22 (fun hh22 eh22 => ?_)
          have K23 := xk_pa K (xk_wa rfl) xD_155 hy22 ry22 eh22
          refine xcps2 (α := Int32) (x3 + (-1)) (fun v24 ev24 => ?_)
          have zv24 : v24.toInt = (x3.toInt + (-1)) := by rw [← ev24]; exact (xz_add (X := x3.toInt) (Y := (-1)) rfl (by decide) (by omega) (by omega)).trans (by omega)
          refine xi_iinc (pc' := 191) (x := x3) (v := v24) (lv' := [(3, .int v24), (0, .ref 115), (2, .int x2), (4, .int x4), (5, .int 81), (6, .int 4)]) kc_58_188 rfl rfl ev24 rfl (xm_lt ml_58 rfl) ?_
          refine xi_goto (pc' := 48) kc_58_191 rfl ?_
          refine xw_lv (b := [(0, .ref 115), (2, .int x2), (3, .int v24)]) (lvS_cons (lvS_cons (lvS_cons (lvS_nil (show ([3, 0, 2, 4, 5, 6] : List Nat).Nodup by decide)) rfl) rfl) rfl) ?_
          exact i9 x2 v24 hh22 (by omega) (by omega) K23 (by omega)
      · refine xi_cmf (pc' := 71) kc_58_68 rfl (xc_ge_f (X := 4) (Y := u10.toInt) (by decide) rfl (by omega)) ?_
        refine xi_iload_n (pc' := 72) (x := x3) kc_58_71 rfl rfl ?_
        refine xi_iload (pc' := 74) (x := 81) kc_58_72 rfl rfl ?_
        refine xcps2 (α := Int32) (x3 / 81) (fun v25 ev25 => ?_)
        have dv25 : v25.toInt = x3.toInt / 81 := by rw [← ev25]; exact xz_dive (X := x3.toInt) (Y := 81) rfl (by decide) (by omega) (by decide)
        have bv25 : 0 ≤ v25.toInt ∧ v25.toInt ≤ 80 := by omega
        refine xi_idiv (pc' := 75) (v := v25) kc_58_74 rfl ev25 (by decide) ?_
        refine xi_iconst (pc' := 76) (v := 3) kc_58_75 rfl rfl ?_
        refine xcps2 (α := Int32) (v25 - v25 / 3 * 3) (fun v26 ev26 => ?_)
        have dv26 : v26.toInt = v25.toInt % 3 := by rw [← ev26]; exact xz_reme (X := v25.toInt) (Y := 3) rfl (by decide) (by omega) (by decide)
        have bv26 : 0 ≤ v26.toInt ∧ v26.toInt ≤ 2 := by omega
        refine xi_irem (pc' := 77) (v := v26) kc_58_76 rfl ev26 (by decide) ?_
        by_cases c27 : v26.toInt = 0
        · refine xi_iff (pc' := 80) kc_58_77 rfl (xc_ne_f (X := v26.toInt) (Y := 0) rfl (by decide) (by omega)) ?_
          refine xi_aload_n (pc' := 81) (x := 115) kc_58_80 rfl rfl ?_
          refine xi_iload_n (pc' := 82) (x := x3) kc_58_81 rfl rfl ?_
          refine xi_iload (pc' := 84) (x := 4) kc_58_82 rfl rfl ?_
          refine xi_virtual (mj := 59) (as := [.int x3, .int 4]) (st1 := []) (lv0 := [(0, .ref 115), (1, .int x3), (2, .int 4)]) kc_58_84 rfl rfl rfl rfl rfl A14 (Nat.le_of_ble_eq_true rfl) (hJ _ _ _ _ (by decide)) (xm_le ml_59 rfl) rfl ?_
          have zc4 : (4 : Int32).toInt = 4 := by decide
          refine mt_59_0 hJ hov1 hov2 (d := d + 3) (x1 := x3) (x2 := 4) K.1 (by first | omega | decide) (by first | omega | decide) (fun r28 hh29 br28 K30 => ?_)
          have K31 := xk_tr K K30 rfl
          refine xp_115 K31.1 (fun u32 u33 u34 u35 u36 u37 u38 u39 u40 u41 u42 u43 u44 bu32 bu33 bu34 bu35 bu36 bu37 bu38 bu39 bu40 bu41 bu42 bu43 bu44 A45 => ?_)
          have e46 : u2 = u33 := xk_eqi (q := 1) K30 rfl A14 A45 rfl rfl
          subst e46
          have e47 : u5 = u36 := xk_eqi (q := 23) K30 rfl A14 A45 rfl rfl
          subst e47
          show xw J ov (d + 7) 58 (87, [(0, .ref 115), (2, .int x2), (3, .int x3), (4, .int x4), (5, .int 81), (6, .int 4)], [.int r28], hh29) _
          by_cases c48 : r28.toInt = 0
          · refine xi_ift (pc' := 159) kc_58_87 rfl (xc_eq_t (X := r28.toInt) (Y := 0) rfl (by decide) (by omega)) ?_
            refine xi_iload (pc' := 161) (x := 81) kc_58_159 rfl rfl ?_
            refine xi_iconst (pc' := 162) (v := 3) kc_58_161 rfl rfl ?_
            refine xi_imul (pc' := 163) (v := 243) kc_58_162 rfl rfl ?_
            refine xi_istore (pc' := 165) (lv' := [(5, .int 243), (0, .ref 115), (2, .int x2), (3, .int x3), (4, .int x4), (6, .int 4)]) kc_58_163 rfl rfl (xm_lt ml_58 rfl) ?_
            refine xi_iinc (pc' := 168) (x := 4) (v := 5) (lv' := [(6, .int 5), (5, .int 243), (0, .ref 115), (2, .int x2), (3, .int x3), (4, .int x4)]) kc_58_165 rfl rfl rfl rfl (xm_lt ml_58 rfl) ?_
            refine xi_goto (pc' := 62) kc_58_168 rfl ?_
            have zc5 : (5 : Int32).toInt = 5 := by decide
            have zc243 : (243 : Int32).toInt = 243 := by decide
            refine xw_lv (b := [(0, .ref 115), (2, .int x2), (3, .int x3), (4, .int x4), (5, .int 243), (6, .int 5)]) (lvS_cons (lvS_cons (lvS_cons (lvS_cons (lvS_cons (lvS_cons (lvS_nil (show ([6, 5, 0, 2, 3, 4] : List Nat).Nodup by decide)) rfl) rfl) rfl) rfl) rfl) rfl) ?_
            exact i15 x2 x3 x4 hh29 (by omega) (by omega) K31 (by omega)
          · refine xi_iff (pc' := 90) kc_58_87 rfl (xc_eq_f (X := r28.toInt) (Y := 0) rfl (by decide) (by omega)) ?_
            refine xi_aload_n (pc' := 91) (x := 115) kc_58_90 rfl rfl ?_
            refine xi_getfield (pc' := 94) (v := .ref 155) kc_58_91 rfl rfl rfl A45 rfl ?_
            refine xi_iload_n (pc' := 95) (x := x3) kc_58_94 rfl rfl ?_
            refine xi_iload (pc' := 97) (x := 81) kc_58_95 rfl rfl ?_
            refine xcps2 (α := Int32) (x3 + 81) (fun v49 ev49 => ?_)
            have zv49 : v49.toInt = (x3.toInt + 81) := by rw [← ev49]; exact (xz_add (X := x3.toInt) (Y := 81) rfl (by decide) (by omega) (by omega)).trans (by omega)
            refine xi_iadd (pc' := 98) (v := v49) kc_58_97 rfl ev49 ?_
            have t50 : (-81) ≤ x3.toInt ∧ x3.toInt ≤ 6479 := by omega
            refine xcps4 (xk_arr K31.1 xD_155) (fun y51 A51 hy51 ry51 => ?_)
            refine xcps4 (xj_get hy51 ry51 (i := v49) (by rw [zv49]; omega) (by rw [zv49]; omega)) (fun v52 ev52 bv52 dv52 => ?_)
            refine xi_iaload (pc' := 99) (v := v52) kc_58_98 rfl A51 (by decide) rfl (xi_in (by rw [zv49]; omega) (by rw [hy51]; rw [zv49]; omega)) ev52 ?_
            refine xi_istore (pc' := 101) (lv' := [(7, .int v52), (0, .ref 115), (2, .int x2), (3, .int x3), (4, .int x4), (5, .int 81), (6, .int 4)]) kc_58_99 rfl rfl (xm_lt ml_58 rfl) ?_
            refine xi_aload_n (pc' := 102) (x := 115) kc_58_101 rfl rfl ?_
            refine xi_getfield (pc' := 105) (v := .ref 155) kc_58_102 rfl rfl rfl A45 rfl ?_
            refine xi_iload_n (pc' := 106) (x := x3) kc_58_105 rfl rfl ?_
            refine xi_iconst (pc' := 107) (v := 2) kc_58_106 rfl rfl ?_
            refine xi_iload (pc' := 109) (x := 81) kc_58_107 rfl rfl ?_
            refine xi_imul (pc' := 110) (v := 162) kc_58_109 rfl rfl ?_
            refine xcps2 (α := Int32) (x3 + 162) (fun v53 ev53 => ?_)
            have zv53 : v53.toInt = (x3.toInt + 162) := by rw [← ev53]; exact (xz_add (X := x3.toInt) (Y := 162) rfl (by decide) (by omega) (by omega)).trans (by omega)
            refine xi_iadd (pc' := 111) (v := v53) kc_58_110 rfl ev53 ?_
            have t54 : (-162) ≤ x3.toInt ∧ x3.toInt ≤ 6398 := by omega
            refine xcps4 (xj_get hy51 ry51 (i := v53) (by rw [zv53]; omega) (by rw [zv53]; omega)) (fun v55 ev55 bv55 dv55 => ?_)
            refine xi_iaload (pc' := 112) (v := v55) kc_58_111 rfl A51 (by decide) rfl (xi_in (by rw [zv53]; omega) (by rw [hy51]; rw [zv53]; omega)) ev55 ?_
            refine xi_istore (pc' := 114) (lv' := [(8, .int v55), (7, .int v52), (0, .ref 115), (2, .int x2), (3, .int x3), (4, .int x4), (5, .int 81), (6, .int 4)]) kc_58_112 rfl rfl (xm_lt ml_58 rfl) ?_
            refine xi_aload_n (pc' := 115) (x := 115) kc_58_114 rfl rfl ?_
            refine xi_getfield (pc' := 118) (v := .ref 153) kc_58_115 rfl rfl rfl A45 rfl ?_
            refine xi_iload (pc' := 120) (x := 4) kc_58_118 rfl rfl ?_
            refine xcps4 (xk_arr K31.1 xD_153) (fun y56 A56 hy56 ry56 => ?_)
            refine xcps4 (xj_get hy56 ry56 (i := 4) (by decide) (by decide)) (fun v57 ev57 bv57 dv57 => ?_)
            refine xi_iaload (pc' := 121) (v := v57) kc_58_120 rfl A56 (by decide) rfl (xi_in (by decide) (by rw [hy56]; decide)) ev57 ?_
            refine xi_iload (pc' := 123) (x := v52) kc_58_121 rfl rfl ?_
            refine xi_iload (pc' := 125) (x := v55) kc_58_123 rfl rfl ?_
            by_cases c58 : v52.toInt ≤ v55.toInt
            · refine xi_cmt (pc' := 133) kc_58_125 rfl (xc_le_t (X := v52.toInt) (Y := v55.toInt) rfl rfl (by omega)) ?_
              refine xi_iload (pc' := 135) (x := v55) kc_58_133 rfl rfl ?_
              refine xcps2 (α := Int32) ((v57 : Int32) + v55) (fun v59 ev59 => ?_)
              have rv59 := xc_rng v59
              refine xi_iadd (pc' := 136) (v := v59) kc_58_135 rfl ev59 ?_
              refine xi_istore (pc' := 138) (lv' := [(9, .int v59), (8, .int v55), (7, .int v52), (0, .ref 115), (2, .int x2), (3, .int x3), (4, .int x4), (5, .int 81), (6, .int 4)]) kc_58_136 rfl rfl (xm_lt ml_58 rfl) ?_
              refine xi_iload (pc' := 140) (x := x4) kc_58_138 rfl rfl ?_
              by_cases c60 : x4.toInt < 0
              · refine xi_ift (pc' := 150) kc_58_140 rfl (xc_lt_t (X := x4.toInt) (Y := 0) rfl (by decide) (by omega)) ?_
                refine xi_iload (pc' := 152) (x := v59) kc_58_150 rfl rfl ?_
                refine xi_goto (pc' := 157) kc_58_152 rfl ?_
                refine xi_istore (pc' := 159) (lv' := [(4, .int v59), (9, .int v59), (8, .int v55), (7, .int v52), (0, .ref 115), (2, .int x2), (3, .int x3), (5, .int 81), (6, .int 4)]) kc_58_157 rfl rfl (xm_lt ml_58 rfl) ?_
                refine xi_iload (pc' := 161) (x := 81) kc_58_159 rfl rfl ?_
                refine xi_iconst (pc' := 162) (v := 3) kc_58_161 rfl rfl ?_
                refine xi_imul (pc' := 163) (v := 243) kc_58_162 rfl rfl ?_
                refine xi_istore (pc' := 165) (lv' := [(5, .int 243), (4, .int v59), (9, .int v59), (8, .int v55), (7, .int v52), (0, .ref 115), (2, .int x2), (3, .int x3), (6, .int 4)]) kc_58_163 rfl rfl (xm_lt ml_58 rfl) ?_
                refine xi_iinc (pc' := 168) (x := 4) (v := 5) (lv' := [(6, .int 5), (5, .int 243), (4, .int v59), (9, .int v59), (8, .int v55), (7, .int v52), (0, .ref 115), (2, .int x2), (3, .int x3)]) kc_58_165 rfl rfl rfl rfl (xm_lt ml_58 rfl) ?_
                refine xi_goto (pc' := 62) kc_58_168 rfl ?_
                have zc5 : (5 : Int32).toInt = 5 := by decide
                have zc243 : (243 : Int32).toInt = 243 := by decide
                refine xw_lv (b := [(0, .ref 115), (2, .int x2), (3, .int x3), (4, .int v59), (5, .int 243), (6, .int 5)]) (lvS_cons (lvS_cons (lvS_cons (lvS_cons (lvS_cons (lvS_cons (lvS_nil (show ([6, 5, 4, 9, 8, 7, 0, 2, 3] : List Nat).Nodup by decide)) rfl) rfl) rfl) rfl) rfl) rfl) ?_
                exact i15 x2 x3 v59 hh29 (by omega) (by omega) K31 (by omega)
              · refine xi_iff (pc' := 143) kc_58_140 rfl (xc_lt_f (X := x4.toInt) (Y := 0) rfl (by decide) (by omega)) ?_
                refine xi_iload (pc' := 145) (x := v59) kc_58_143 rfl rfl ?_
                refine xi_iload (pc' := 147) (x := x4) kc_58_145 rfl rfl ?_
                by_cases c61 : x4.toInt ≤ v59.toInt
                · refine xi_cmt (pc' := 155) kc_58_147 rfl (xc_ge_t (X := v59.toInt) (Y := x4.toInt) rfl rfl (by omega)) ?_
                  refine xi_iload (pc' := 157) (x := x4) kc_58_155 rfl rfl ?_
                  refine xi_istore (pc' := 159) (lv' := [(4, .int x4), (9, .int v59), (8, .int v55), (7, .int v52), (0, .ref 115), (2, .int x2), (3, .int x3), (5, .int 81), (6, .int 4)]) kc_58_157 rfl rfl (xm_lt ml_58 rfl) ?_
                  refine xi_iload (pc' := 161) (x := 81) kc_58_159 rfl rfl ?_
                  refine xi_iconst (pc' := 162) (v := 3) kc_58_161 rfl rfl ?_
                  refine xi_imul (pc' := 163) (v := 243) kc_58_162 rfl rfl ?_
                  refine xi_istore (pc' := 165) (lv' := [(5, .int 243), (4, .int x4), (9, .int v59), (8, .int v55), (7, .int v52), (0, .ref 115), (2, .int x2), (3, .int x3), (6, .int 4)]) kc_58_163 rfl rfl (xm_lt ml_58 rfl) ?_
                  refine xi_iinc (pc' := 168) (x := 4) (v := 5) (lv' := [(6, .int 5), (5, .int 243), (4, .int x4), (9, .int v59), (8, .int v55), (7, .int v52), (0, .ref 115), (2, .int x2), (3, .int x3)]) kc_58_165 rfl rfl rfl rfl (xm_lt ml_58 rfl) ?_
                  refine xi_goto (pc' := 62) kc_58_168 rfl ?_
                  have zc5 : (5 : Int32).toInt = 5 := by decide
                  have zc243 : (243 : Int32).toInt = 243 := by decide
                  refine xw_lv (b := [(0, .ref 115), (2, .int x2), (3, .int x3), (4, .int x4), (5, .int 243), (6, .int 5)]) (lvS_cons (lvS_cons (lvS_cons (lvS_cons (lvS_cons (lvS_cons (lvS_nil (show ([6, 5, 4, 9, 8, 7, 0, 2, 3] : List Nat).Nodup by decide)) rfl) rfl) rfl) rfl) rfl) rfl) ?_
                  exact i15 x2 x3 x4 hh29 (by omega) (by omega) K31 (by omega)
                · refine xi_cmf (pc' := 150) kc_58_147 rfl (xc_ge_f (X := v59.toInt) (Y := x4.toInt) rfl rfl (by omega)) ?_
                  refine xi_iload (pc' := 152) (x := v59) kc_58_150 rfl rfl ?_
                  refine xi_goto (pc' := 157) kc_58_152 rfl ?_
                  refine xi_istore (pc' := 159) (lv' := [(4, .int v59), (9, .int v59), (8, .int v55), (7, .int v52), (0, .ref 115), (2, .int x2), (3, .int x3), (5, .int 81), (6, .int 4)]) kc_58_157 rfl rfl (xm_lt ml_58 rfl) ?_
                  refine xi_iload (pc' := 161) (x := 81) kc_58_159 rfl rfl ?_
                  refine xi_iconst (pc' := 162) (v := 3) kc_58_161 rfl rfl ?_
                  refine xi_imul (pc' := 163) (v := 243) kc_58_162 rfl rfl ?_
                  refine xi_istore (pc' := 165) (lv' := [(5, .int 243), (4, .int v59), (9, .int v59), (8, .int v55), (7, .int v52), (0, .ref 115), (2, .int x2), (3, .int x3), (6, .int 4)]) kc_58_163 rfl rfl (xm_lt ml_58 rfl) ?_
                  refine xi_iinc (pc' := 168) (x := 4) (v := 5) (lv' := [(6, .int 5), (5, .int 243), (4, .int v59), (9, .int v59), (8, .int v55), (7, .int v52), (0, .ref 115), (2, .int x2), (3, .int x3)]) kc_58_165 rfl rfl rfl rfl (xm_lt ml_58 rfl) ?_
                  refine xi_goto (pc' := 62) kc_58_168 rfl ?_
                  have zc5 : (5 : Int32).toInt = 5 := by decide
                  have zc243 : (243 : Int32).toInt = 243 := by decide
                  refine xw_lv (b := [(0, .ref 115), (2, .int x2), (3, .int x3), (4, .int v59), (5, .int 243), (6, .int 5)]) (lvS_cons (lvS_cons (lvS_cons (lvS_cons (lvS_cons (lvS_cons (lvS_nil (show ([6, 5, 4, 9, 8, 7, 0, 2, 3] : List Nat).Nodup by decide)) rfl) rfl) rfl) rfl) rfl) rfl) ?_
                  exact i15 x2 x3 v59 hh29 (by omega) (by omega) K31 (by omega)
            · refine xi_cmf (pc' := 128) kc_58_125 rfl (xc_le_f (X := v52.toInt) (Y := v55.toInt) rfl rfl (by omega)) ?_
              refine xi_iload (pc' := 130) (x := v52) kc_58_128 rfl rfl ?_
              refine xi_goto (pc' := 135) kc_58_130 rfl ?_
              refine xcps2 (α := Int32) ((v57 : Int32) + v52) (fun v62 ev62 => ?_)
              have rv62 := xc_rng v62
              refine xi_iadd (pc' := 136) (v := v62) kc_58_135 rfl ev62 ?_
              refine xi_istore (pc' := 138) (lv' := [(9, .int v62), (8, .int v55), (7, .int v52), (0, .ref 115), (2, .int x2), (3, .int x3), (4, .int x4), (5, .int 81), (6, .int 4)]) kc_58_136 rfl rfl (xm_lt ml_58 rfl) ?_
              refine xi_iload (pc' := 140) (x := x4) kc_58_138 rfl rfl ?_
              by_cases c63 : x4.toInt < 0
              · refine xi_ift (pc' := 150) kc_58_140 rfl (xc_lt_t (X := x4.toInt) (Y := 0) rfl (by decide) (by omega)) ?_
                refine xi_iload (pc' := 152) (x := v62) kc_58_150 rfl rfl ?_
                refine xi_goto (pc' := 157) kc_58_152 rfl ?_
                refine xi_istore (pc' := 159) (lv' := [(4, .int v62), (9, .int v62), (8, .int v55), (7, .int v52), (0, .ref 115), (2, .int x2), (3, .int x3), (5, .int 81), (6, .int 4)]) kc_58_157 rfl rfl (xm_lt ml_58 rfl) ?_
                refine xi_iload (pc' := 161) (x := 81) kc_58_159 rfl rfl ?_
                refine xi_iconst (pc' := 162) (v := 3) kc_58_161 rfl rfl ?_
                refine xi_imul (pc' := 163) (v := 243) kc_58_162 rfl rfl ?_
                refine xi_istore (pc' := 165) (lv' := [(5, .int 243), (4, .int v62), (9, .int v62), (8, .int v55), (7, .int v52), (0, .ref 115), (2, .int x2), (3, .int x3), (6, .int 4)]) kc_58_163 rfl rfl (xm_lt ml_58 rfl) ?_
                refine xi_iinc (pc' := 168) (x := 4) (v := 5) (lv' := [(6, .int 5), (5, .int 243), (4, .int v62), (9, .int v62), (8, .int v55), (7, .int v52), (0, .ref 115), (2, .int x2), (3, .int x3)]) kc_58_165 rfl rfl rfl rfl (xm_lt ml_58 rfl) ?_
                refine xi_goto (pc' := 62) kc_58_168 rfl ?_
                have zc5 : (5 : Int32).toInt = 5 := by decide
                have zc243 : (243 : Int32).toInt = 243 := by decide
                refine xw_lv (b := [(0, .ref 115), (2, .int x2), (3, .int x3), (4, .int v62), (5, .int 243), (6, .int 5)]) (lvS_cons (lvS_cons (lvS_cons (lvS_cons (lvS_cons (lvS_cons (lvS_nil (show ([6, 5, 4, 9, 8, 7, 0, 2, 3] : List Nat).Nodup by decide)) rfl) rfl) rfl) rfl) rfl) rfl) ?_
                exact i15 x2 x3 v62 hh29 (by omega) (by omega) K31 (by omega)
              · refine xi_iff (pc' := 143) kc_58_140 rfl (xc_lt_f (X := x4.toInt) (Y := 0) rfl (by decide) (by omega)) ?_
                refine xi_iload (pc' := 145) (x := v62) kc_58_143 rfl rfl ?_
                refine xi_iload (pc' := 147) (x := x4) kc_58_145 rfl rfl ?_
                by_cases c64 : x4.toInt ≤ v62.toInt
                · refine xi_cmt (pc' := 155) kc_58_147 rfl (xc_ge_t (X := v62.toInt) (Y := x4.toInt) rfl rfl (by omega)) ?_
                  refine xi_iload (pc' := 157) (x := x4) kc_58_155 rfl rfl ?_
                  refine xi_istore (pc' := 159) (lv' := [(4, .int x4), (9, .int v62), (8, .int v55), (7, .int v52), (0, .ref 115), (2, .int x2), (3, .int x3), (5, .int 81), (6, .int 4)]) kc_58_157 rfl rfl (xm_lt ml_58 rfl) ?_
                  refine xi_iload (pc' := 161) (x := 81) kc_58_159 rfl rfl ?_
                  refine xi_iconst (pc' := 162) (v := 3) kc_58_161 rfl rfl ?_
                  refine xi_imul (pc' := 163) (v := 243) kc_58_162 rfl rfl ?_
                  refine xi_istore (pc' := 165) (lv' := [(5, .int 243), (4, .int x4), (9, .int v62), (8, .int v55), (7, .int v52), (0, .ref 115), (2, .int x2), (3, .int x3), (6, .int 4)]) kc_58_163 rfl rfl (xm_lt ml_58 rfl) ?_
                  refine xi_iinc (pc' := 168) (x := 4) (v := 5) (lv' := [(6, .int 5), (5, .int 243), (4, .int x4), (9, .int v62), (8, .int v55), (7, .int v52), (0, .ref 115), (2, .int x2), (3, .int x3)]) kc_58_165 rfl rfl rfl rfl (xm_lt ml_58 rfl) ?_
                  refine xi_goto (pc' := 62) kc_58_168 rfl ?_
                  have zc5 : (5 : Int32).toInt = 5 := by decide
                  have zc243 : (243 : Int32).toInt = 243 := by decide
                  refine xw_lv (b := [(0, .ref 115), (2, .int x2), (3, .int x3), (4, .int x4), (5, .int 243), (6, .int 5)]) (lvS_cons (lvS_cons (lvS_cons (lvS_cons (lvS_cons (lvS_cons (lvS_nil (show ([6, 5, 4, 9, 8, 7, 0, 2, 3] : List Nat).Nodup by decide)) rfl) rfl) rfl) rfl) rfl) rfl) ?_
                  exact i15 x2 x3 x4 hh29 (by omega) (by omega) K31 (by omega)
                · refine xi_cmf (pc' := 150) kc_58_147 rfl (xc_ge_f (X := v62.toInt) (Y := x4.toInt) rfl rfl (by omega)) ?_
                  refine xi_iload (pc' := 152) (x := v62) kc_58_150 rfl rfl ?_
                  refine xi_goto (pc' := 157) kc_58_152 rfl ?_
                  refine xi_istore (pc' := 159) (lv' := [(4, .int v62), (9, .int v62), (8, .int v55), (7, .int v52), (0, .ref 115), (2, .int x2), (3, .int x3), (5, .int 81), (6, .int 4)]) kc_58_157 rfl rfl (xm_lt ml_58 rfl) ?_
                  refine xi_iload (pc' := 161) (x := 81) kc_58_159 rfl rfl ?_
                  refine xi_iconst (pc' := 162) (v := 3) kc_58_161 rfl rfl ?_
                  refine xi_imul (pc' := 163) (v := 243) kc_58_162 rfl rfl ?_
                  refine xi_istore (pc' := 165) (lv' := [(5, .int 243), (4, .int v62), (9, .int v62), (8, .int v55), (7, .int v52), (0, .ref 115), (2, .int x2), (3, .int x3), (6, .int 4)]) kc_58_163 rfl rfl (xm_lt ml_58 rfl) ?_
                  refine xi_iinc (pc' := 168) (x := 4) (v := 5) (lv' := [(6, .int 5), (5, .int 243), (4, .int v62), (9, .int v62), (8, .int v55), (7, .int v52), (0, .ref 115), (2, .int x2), (3, .int x3)]) kc_58_165 rfl rfl rfl rfl (xm_lt ml_58 rfl) ?_
                  refine xi_goto (pc' := 62) kc_58_168 rfl ?_
                  have zc5 : (5 : Int32).toInt = 5 := by decide
                  have zc243 : (243 : Int32).toInt = 243 := by decide
                  refine xw_lv (b := [(0, .ref 115), (2, .int x2), (3, .int x3), (4, .int v62), (5, .int 243), (6, .int 5)]) (lvS_cons (lvS_cons (lvS_cons (lvS_cons (lvS_cons (lvS_cons (lvS_nil (show ([6, 5, 4, 9, 8, 7, 0, 2, 3] : List Nat).Nodup by decide)) rfl) rfl) rfl) rfl) rfl) rfl) ?_
                  exact i15 x2 x3 v62 hh29 (by omega) (by omega) K31 (by omega)
        · refine xi_ift (pc' := 159) kc_58_77 rfl (xc_ne_t (X := v26.toInt) (Y := 0) rfl (by decide) (by omega)) ?_
          refine xi_iload (pc' := 161) (x := 81) kc_58_159 rfl rfl ?_
          refine xi_iconst (pc' := 162) (v := 3) kc_58_161 rfl rfl ?_
          refine xi_imul (pc' := 163) (v := 243) kc_58_162 rfl rfl ?_
          refine xi_istore (pc' := 165) (lv' := [(5, .int 243), (0, .ref 115), (2, .int x2), (3, .int x3), (4, .int x4), (6, .int 4)]) kc_58_163 rfl rfl (xm_lt ml_58 rfl) ?_
          refine xi_iinc (pc' := 168) (x := 4) (v := 5) (lv' := [(6, .int 5), (5, .int 243), (0, .ref 115), (2, .int x2), (3, .int x3), (4, .int x4)]) kc_58_165 rfl rfl rfl rfl (xm_lt ml_58 rfl) ?_
          refine xi_goto (pc' := 62) kc_58_168 rfl ?_
          have zc5 : (5 : Int32).toInt = 5 := by decide
          have zc243 : (243 : Int32).toInt = 243 := by decide
          refine xw_lv (b := [(0, .ref 115), (2, .int x2), (3, .int x3), (4, .int x4), (5, .int 243), (6, .int 5)]) (lvS_cons (lvS_cons (lvS_cons (lvS_cons (lvS_cons (lvS_cons (lvS_nil (show ([6, 5, 0, 2, 3, 4] : List Nat).Nodup by decide)) rfl) rfl) rfl) rfl) rfl) rfl) ?_
          exact i15 x2 x3 x4 h (by omega) (by omega) K (by omega)
    · intro x2 x3 x4 h b2 b3 K hm
      have rx4 := xc_rng x4
      refine xi_iload (pc' := 64) (x := 5) kc_58_62 rfl rfl ?_
      refine xi_aload_n (pc' := 65) (x := 115) kc_58_64 rfl rfl ?_
      refine xp_115 K.1 (fun u1 u2 u3 u4 u5 u6 u7 u8 u9 u10 u11 u12 u13 bu1 bu2 bu3 bu4 bu5 bu6 bu7 bu8 bu9 bu10 bu11 bu12 bu13 A14 => ?_)
      refine xi_getfield (pc' := 68) (v := .int u10) kc_58_65 rfl rfl rfl A14 rfl ?_
      by_cases c15 : u10.toInt ≤ 5
      · refine xi_cmt (pc' := 171) kc_58_68 rfl (xc_ge_t (X := 5) (Y := u10.toInt) (by decide) rfl (by omega)) ?_
        refine xi_aload_n (pc' := 172) (x := 115) kc_58_171 rfl rfl ?_
        refine xi_getfield (pc' := 175) (v := .ref 155) kc_58_172 rfl rfl rfl A14 rfl ?_
        refine xi_iload_n (pc' := 176) (x := x3) kc_58_175 rfl rfl ?_
        refine xi_iload (pc' := 178) (x := x4) kc_58_176 rfl rfl ?_
        by_cases c16 : 0 ≤ x4.toInt
        · refine xi_ift (pc' := 185) kc_58_178 rfl (xc_ge_t (X := x4.toInt) (Y := 0) rfl (by decide) (by omega)) ?_
          refine xi_iload (pc' := 187) (x := x4) kc_58_185 rfl rfl ?_
          refine xcps4 (xk_arr K.1 xD_155) (fun y17 A17 hy17 ry17 => ?_)
          refine xcps4 (xj_set (v := x4) hy17 ry17 x3 (by first | omega | decide) (by first | omega | decide)) (fun y18 s18 hy18 ry18 => ?_)
          refine xi_iastore (pc' := 188) (x' := y18) kc_58_187 rfl A17 rfl (xi_in (by omega) (by rw [hy17]; omega)) s18 (fun hh18 eh18 => ?_)
          have K19 := xk_pa K (xk_wa rfl) xD_155 hy18 ry18 eh18
          refine xcps2 (α := Int32) (x3 + (-1)) (fun v20 ev20 => ?_)
          have zv20 : v20.toInt = (x3.toInt + (-1)) := by rw [← ev20]; exact (xz_add (X := x3.toInt) (Y := (-1)) rfl (by decide) (by omega) (by omega)).trans (by omega)
          refine xi_iinc (pc' := 191) (x := x3) (v := v20) (lv' := [(3, .int v20), (0, .ref 115), (2, .int x2), (4, .int x4), (5, .int 243), (6, .int 5)]) kc_58_188 rfl rfl ev20 rfl (xm_lt ml_58 rfl) ?_
          refine xi_goto (pc' := 48) kc_58_191 rfl ?_
          refine xw_lv (b := [(0, .ref 115), (2, .int x2), (3, .int v20)]) (lvS_cons (lvS_cons (lvS_cons (lvS_nil (show ([3, 0, 2, 4, 5, 6] : List Nat).Nodup by decide)) rfl) rfl) rfl) ?_
          exact i9 x2 v20 hh18 (by omega) (by omega) K19 (by omega)
        · refine xi_iff (pc' := 181) kc_58_178 rfl (xc_ge_f (X := x4.toInt) (Y := 0) rfl (by decide) (by omega)) ?_
          refine xi_iconst (pc' := 182) (v := 0) kc_58_181 rfl rfl ?_
          refine xi_goto (pc' := 187) kc_58_182 rfl ?_
          refine xcps4 (xk_arr K.1 xD_155) (fun y21 A21 hy21 ry21 => ?_)
          refine xcps4 (xj_set (v := 0) hy21 ry21 x3 (by first | omega | decide) (by first | omega | decide)) (fun y22 s22 hy22 ry22 => ?_)
          refine xi_iastore (pc' := 188) (x' := y22) kc_58_187 rfl A21 rfl (xi_in (by omega) (by rw [hy21]; omega)) s22 (fun hh22 eh22 => ?_)
          have K23 := xk_pa K (xk_wa rfl) xD_155 hy22 ry22 eh22
          refine xcps2 (α := Int32) (x3 + (-1)) (fun v24 ev24 => ?_)
          have zv24 : v24.toInt = (x3.toInt + (-1)) := by rw [← ev24]; exact (xz_add (X := x3.toInt) (Y := (-1)) rfl (by decide) (by omega) (by omega)).trans (by omega)
          refine xi_iinc (pc' := 191) (x := x3) (v := v24) (lv' := [(3, .int v24), (0, .ref 115), (2, .int x2), (4, .int x4), (5, .int 243), (6, .int 5)]) kc_58_188 rfl rfl ev24 rfl (xm_lt ml_58 rfl) ?_
          refine xi_goto (pc' := 48) kc_58_191 rfl ?_
          refine xw_lv (b := [(0, .ref 115), (2, .int x2), (3, .int v24)]) (lvS_cons (lvS_cons (lvS_cons (lvS_nil (show ([3, 0, 2, 4, 5, 6] : List Nat).Nodup by decide)) rfl) rfl) rfl) ?_
          exact i9 x2 v24 hh22 (by omega) (by omega) K23 (by omega)
      · refine xi_cmf (pc' := 71) kc_58_68 rfl (xc_ge_f (X := 5) (Y := u10.toInt) (by decide) rfl (by omega)) ?_
        refine xi_iload_n (pc' := 72) (x := x3) kc_58_71 rfl rfl ?_
        refine xi_iload (pc' := 74) (x := 243) kc_58_72 rfl rfl ?_
        refine xcps2 (α := Int32) (x3 / 243) (fun v25 ev25 => ?_)
        have dv25 : v25.toInt = x3.toInt / 243 := by rw [← ev25]; exact xz_dive (X := x3.toInt) (Y := 243) rfl (by decide) (by omega) (by decide)
        have bv25 : 0 ≤ v25.toInt ∧ v25.toInt ≤ 26 := by omega
        refine xi_idiv (pc' := 75) (v := v25) kc_58_74 rfl ev25 (by decide) ?_
        refine xi_iconst (pc' := 76) (v := 3) kc_58_75 rfl rfl ?_
        refine xcps2 (α := Int32) (v25 - v25 / 3 * 3) (fun v26 ev26 => ?_)
        have dv26 : v26.toInt = v25.toInt % 3 := by rw [← ev26]; exact xz_reme (X := v25.toInt) (Y := 3) rfl (by decide) (by omega) (by decide)
        have bv26 : 0 ≤ v26.toInt ∧ v26.toInt ≤ 2 := by omega
        refine xi_irem (pc' := 77) (v := v26) kc_58_76 rfl ev26 (by decide) ?_
        by_cases c27 : v26.toInt = 0
        · refine xi_iff (pc' := 80) kc_58_77 rfl (xc_ne_f (X := v26.toInt) (Y := 0) rfl (by decide) (by omega)) ?_
          refine xi_aload_n (pc' := 81) (x := 115) kc_58_80 rfl rfl ?_
          refine xi_iload_n (pc' := 82) (x := x3) kc_58_81 rfl rfl ?_
          refine xi_iload (pc' := 84) (x := 5) kc_58_82 rfl rfl ?_
          refine xi_virtual (mj := 59) (as := [.int x3, .int 5]) (st1 := []) (lv0 := [(0, .ref 115), (1, .int x3), (2, .int 5)]) kc_58_84 rfl rfl rfl rfl rfl A14 (Nat.le_of_ble_eq_true rfl) (hJ _ _ _ _ (by decide)) (xm_le ml_59 rfl) rfl ?_
          have zc5 : (5 : Int32).toInt = 5 := by decide
          refine mt_59_0 hJ hov1 hov2 (d := d + 3) (x1 := x3) (x2 := 5) K.1 (by first | omega | decide) (by first | omega | decide) (fun r28 hh29 br28 K30 => ?_)
          have K31 := xk_tr K K30 rfl
          refine xp_115 K31.1 (fun u32 u33 u34 u35 u36 u37 u38 u39 u40 u41 u42 u43 u44 bu32 bu33 bu34 bu35 bu36 bu37 bu38 bu39 bu40 bu41 bu42 bu43 bu44 A45 => ?_)
          have e46 : u2 = u33 := xk_eqi (q := 1) K30 rfl A14 A45 rfl rfl
          subst e46
          have e47 : u5 = u36 := xk_eqi (q := 23) K30 rfl A14 A45 rfl rfl
          subst e47
          show xw J ov (d + 7) 58 (87, [(0, .ref 115), (2, .int x2), (3, .int x3), (4, .int x4), (5, .int 243), (6, .int 5)], [.int r28], hh29) _
          by_cases c48 : r28.toInt = 0
          · refine xi_ift (pc' := 159) kc_58_87 rfl (xc_eq_t (X := r28.toInt) (Y := 0) rfl (by decide) (by omega)) ?_
            refine xi_iload (pc' := 161) (x := 243) kc_58_159 rfl rfl ?_
            refine xi_iconst (pc' := 162) (v := 3) kc_58_161 rfl rfl ?_
            refine xi_imul (pc' := 163) (v := 729) kc_58_162 rfl rfl ?_
            refine xi_istore (pc' := 165) (lv' := [(5, .int 729), (0, .ref 115), (2, .int x2), (3, .int x3), (4, .int x4), (6, .int 5)]) kc_58_163 rfl rfl (xm_lt ml_58 rfl) ?_
            refine xi_iinc (pc' := 168) (x := 5) (v := 6) (lv' := [(6, .int 6), (5, .int 729), (0, .ref 115), (2, .int x2), (3, .int x3), (4, .int x4)]) kc_58_165 rfl rfl rfl rfl (xm_lt ml_58 rfl) ?_
            refine xi_goto (pc' := 62) kc_58_168 rfl ?_
            have zc6 : (6 : Int32).toInt = 6 := by decide
            have zc729 : (729 : Int32).toInt = 729 := by decide
            refine xw_lv (b := [(0, .ref 115), (2, .int x2), (3, .int x3), (4, .int x4), (5, .int 729), (6, .int 6)]) (lvS_cons (lvS_cons (lvS_cons (lvS_cons (lvS_cons (lvS_cons (lvS_nil (show ([6, 5, 0, 2, 3, 4] : List Nat).Nodup by decide)) rfl) rfl) rfl) rfl) rfl) rfl) ?_
            exact i16 x2 x3 x4 hh29 (by omega) (by omega) K31 (by omega)
          · refine xi_iff (pc' := 90) kc_58_87 rfl (xc_eq_f (X := r28.toInt) (Y := 0) rfl (by decide) (by omega)) ?_
            refine xi_aload_n (pc' := 91) (x := 115) kc_58_90 rfl rfl ?_
            refine xi_getfield (pc' := 94) (v := .ref 155) kc_58_91 rfl rfl rfl A45 rfl ?_
            refine xi_iload_n (pc' := 95) (x := x3) kc_58_94 rfl rfl ?_
            refine xi_iload (pc' := 97) (x := 243) kc_58_95 rfl rfl ?_
            refine xcps2 (α := Int32) (x3 + 243) (fun v49 ev49 => ?_)
            have zv49 : v49.toInt = (x3.toInt + 243) := by rw [← ev49]; exact (xz_add (X := x3.toInt) (Y := 243) rfl (by decide) (by omega) (by omega)).trans (by omega)
            refine xi_iadd (pc' := 98) (v := v49) kc_58_97 rfl ev49 ?_
            have t50 : (-243) ≤ x3.toInt ∧ x3.toInt ≤ 6317 := by omega
            refine xcps4 (xk_arr K31.1 xD_155) (fun y51 A51 hy51 ry51 => ?_)
            refine xcps4 (xj_get hy51 ry51 (i := v49) (by rw [zv49]; omega) (by rw [zv49]; omega)) (fun v52 ev52 bv52 dv52 => ?_)
            refine xi_iaload (pc' := 99) (v := v52) kc_58_98 rfl A51 (by decide) rfl (xi_in (by rw [zv49]; omega) (by rw [hy51]; rw [zv49]; omega)) ev52 ?_
            refine xi_istore (pc' := 101) (lv' := [(7, .int v52), (0, .ref 115), (2, .int x2), (3, .int x3), (4, .int x4), (5, .int 243), (6, .int 5)]) kc_58_99 rfl rfl (xm_lt ml_58 rfl) ?_
            refine xi_aload_n (pc' := 102) (x := 115) kc_58_101 rfl rfl ?_
            refine xi_getfield (pc' := 105) (v := .ref 155) kc_58_102 rfl rfl rfl A45 rfl ?_
            refine xi_iload_n (pc' := 106) (x := x3) kc_58_105 rfl rfl ?_
            refine xi_iconst (pc' := 107) (v := 2) kc_58_106 rfl rfl ?_
            refine xi_iload (pc' := 109) (x := 243) kc_58_107 rfl rfl ?_
            refine xi_imul (pc' := 110) (v := 486) kc_58_109 rfl rfl ?_
            refine xcps2 (α := Int32) (x3 + 486) (fun v53 ev53 => ?_)
            have zv53 : v53.toInt = (x3.toInt + 486) := by rw [← ev53]; exact (xz_add (X := x3.toInt) (Y := 486) rfl (by decide) (by omega) (by omega)).trans (by omega)
            refine xi_iadd (pc' := 111) (v := v53) kc_58_110 rfl ev53 ?_
            have t54 : (-486) ≤ x3.toInt ∧ x3.toInt ≤ 6074 := by omega
            refine xcps4 (xj_get hy51 ry51 (i := v53) (by rw [zv53]; omega) (by rw [zv53]; omega)) (fun v55 ev55 bv55 dv55 => ?_)
            refine xi_iaload (pc' := 112) (v := v55) kc_58_111 rfl A51 (by decide) rfl (xi_in (by rw [zv53]; omega) (by rw [hy51]; rw [zv53]; omega)) ev55 ?_
            refine xi_istore (pc' := 114) (lv' := [(8, .int v55), (7, .int v52), (0, .ref 115), (2, .int x2), (3, .int x3), (4, .int x4), (5, .int 243), (6, .int 5)]) kc_58_112 rfl rfl (xm_lt ml_58 rfl) ?_
            refine xi_aload_n (pc' := 115) (x := 115) kc_58_114 rfl rfl ?_
            refine xi_getfield (pc' := 118) (v := .ref 153) kc_58_115 rfl rfl rfl A45 rfl ?_
            refine xi_iload (pc' := 120) (x := 5) kc_58_118 rfl rfl ?_
            refine xcps4 (xk_arr K31.1 xD_153) (fun y56 A56 hy56 ry56 => ?_)
            refine xcps4 (xj_get hy56 ry56 (i := 5) (by decide) (by decide)) (fun v57 ev57 bv57 dv57 => ?_)
            refine xi_iaload (pc' := 121) (v := v57) kc_58_120 rfl A56 (by decide) rfl (xi_in (by decide) (by rw [hy56]; decide)) ev57 ?_
            refine xi_iload (pc' := 123) (x := v52) kc_58_121 rfl rfl ?_
            refine xi_iload (pc' := 125) (x := v55) kc_58_123 rfl rfl ?_
            by_cases c58 : v52.toInt ≤ v55.toInt
            · refine xi_cmt (pc' := 133) kc_58_125 rfl (xc_le_t (X := v52.toInt) (Y := v55.toInt) rfl rfl (by omega)) ?_
              refine xi_iload (pc' := 135) (x := v55) kc_58_133 rfl rfl ?_
              refine xcps2 (α := Int32) ((v57 : Int32) + v55) (fun v59 ev59 => ?_)
              have rv59 := xc_rng v59
              refine xi_iadd (pc' := 136) (v := v59) kc_58_135 rfl ev59 ?_
              refine xi_istore (pc' := 138) (lv' := [(9, .int v59), (8, .int v55), (7, .int v52), (0, .ref 115), (2, .int x2), (3, .int x3), (4, .int x4), (5, .int 243), (6, .int 5)]) kc_58_136 rfl rfl (xm_lt ml_58 rfl) ?_
              refine xi_iload (pc' := 140) (x := x4) kc_58_138 rfl rfl ?_
              by_cases c60 : x4.toInt < 0
              · refine xi_ift (pc' := 150) kc_58_140 rfl (xc_lt_t (X := x4.toInt) (Y := 0) rfl (by decide) (by omega)) ?_
                refine xi_iload (pc' := 152) (x := v59) kc_58_150 rfl rfl ?_
                refine xi_goto (pc' := 157) kc_58_152 rfl ?_
                refine xi_istore (pc' := 159) (lv' := [(4, .int v59), (9, .int v59), (8, .int v55), (7, .int v52), (0, .ref 115), (2, .int x2), (3, .int x3), (5, .int 243), (6, .int 5)]) kc_58_157 rfl rfl (xm_lt ml_58 rfl) ?_
                refine xi_iload (pc' := 161) (x := 243) kc_58_159 rfl rfl ?_
                refine xi_iconst (pc' := 162) (v := 3) kc_58_161 rfl rfl ?_
                refine xi_imul (pc' := 163) (v := 729) kc_58_162 rfl rfl ?_
                refine xi_istore (pc' := 165) (lv' := [(5, .int 729), (4, .int v59), (9, .int v59), (8, .int v55), (7, .int v52), (0, .ref 115), (2, .int x2), (3, .int x3), (6, .int 5)]) kc_58_163 rfl rfl (xm_lt ml_58 rfl) ?_
                refine xi_iinc (pc' := 168) (x := 5) (v := 6) (lv' := [(6, .int 6), (5, .int 729), (4, .int v59), (9, .int v59), (8, .int v55), (7, .int v52), (0, .ref 115), (2, .int x2), (3, .int x3)]) kc_58_165 rfl rfl rfl rfl (xm_lt ml_58 rfl) ?_
                refine xi_goto (pc' := 62) kc_58_168 rfl ?_
                have zc6 : (6 : Int32).toInt = 6 := by decide
                have zc729 : (729 : Int32).toInt = 729 := by decide
                refine xw_lv (b := [(0, .ref 115), (2, .int x2), (3, .int x3), (4, .int v59), (5, .int 729), (6, .int 6)]) (lvS_cons (lvS_cons (lvS_cons (lvS_cons (lvS_cons (lvS_cons (lvS_nil (show ([6, 5, 4, 9, 8, 7, 0, 2, 3] : List Nat).Nodup by decide)) rfl) rfl) rfl) rfl) rfl) rfl) ?_
                exact i16 x2 x3 v59 hh29 (by omega) (by omega) K31 (by omega)
              · refine xi_iff (pc' := 143) kc_58_140 rfl (xc_lt_f (X := x4.toInt) (Y := 0) rfl (by decide) (by omega)) ?_
                refine xi_iload (pc' := 145) (x := v59) kc_58_143 rfl rfl ?_
                refine xi_iload (pc' := 147) (x := x4) kc_58_145 rfl rfl ?_
                by_cases c61 : x4.toInt ≤ v59.toInt
                · refine xi_cmt (pc' := 155) kc_58_147 rfl (xc_ge_t (X := v59.toInt) (Y := x4.toInt) rfl rfl (by omega)) ?_
                  refine xi_iload (pc' := 157) (x := x4) kc_58_155 rfl rfl ?_
                  refine xi_istore (pc' := 159) (lv' := [(4, .int x4), (9, .int v59), (8, .int v55), (7, .int v52), (0, .ref 115), (2, .int x2), (3, .int x3), (5, .int 243), (6, .int 5)]) kc_58_157 rfl rfl (xm_lt ml_58 rfl) ?_
                  refine xi_iload (pc' := 161) (x := 243) kc_58_159 rfl rfl ?_
                  refine xi_iconst (pc' := 162) (v := 3) kc_58_161 rfl rfl ?_
                  refine xi_imul (pc' := 163) (v := 729) kc_58_162 rfl rfl ?_
                  refine xi_istore (pc' := 165) (lv' := [(5, .int 729), (4, .int x4), (9, .int v59), (8, .int v55), (7, .int v52), (0, .ref 115), (2, .int x2), (3, .int x3), (6, .int 5)]) kc_58_163 rfl rfl (xm_lt ml_58 rfl) ?_
                  refine xi_iinc (pc' := 168) (x := 5) (v := 6) (lv' := [(6, .int 6), (5, .int 729), (4, .int x4), (9, .int v59), (8, .int v55), (7, .int v52), (0, .ref 115), (2, .int x2), (3, .int x3)]) kc_58_165 rfl rfl rfl rfl (xm_lt ml_58 rfl) ?_
                  refine xi_goto (pc' := 62) kc_58_168 rfl ?_
                  have zc6 : (6 : Int32).toInt = 6 := by decide
                  have zc729 : (729 : Int32).toInt = 729 := by decide
                  refine xw_lv (b := [(0, .ref 115), (2, .int x2), (3, .int x3), (4, .int x4), (5, .int 729), (6, .int 6)]) (lvS_cons (lvS_cons (lvS_cons (lvS_cons (lvS_cons (lvS_cons (lvS_nil (show ([6, 5, 4, 9, 8, 7, 0, 2, 3] : List Nat).Nodup by decide)) rfl) rfl) rfl) rfl) rfl) rfl) ?_
                  exact i16 x2 x3 x4 hh29 (by omega) (by omega) K31 (by omega)
                · refine xi_cmf (pc' := 150) kc_58_147 rfl (xc_ge_f (X := v59.toInt) (Y := x4.toInt) rfl rfl (by omega)) ?_
                  refine xi_iload (pc' := 152) (x := v59) kc_58_150 rfl rfl ?_
                  refine xi_goto (pc' := 157) kc_58_152 rfl ?_
                  refine xi_istore (pc' := 159) (lv' := [(4, .int v59), (9, .int v59), (8, .int v55), (7, .int v52), (0, .ref 115), (2, .int x2), (3, .int x3), (5, .int 243), (6, .int 5)]) kc_58_157 rfl rfl (xm_lt ml_58 rfl) ?_
                  refine xi_iload (pc' := 161) (x := 243) kc_58_159 rfl rfl ?_
                  refine xi_iconst (pc' := 162) (v := 3) kc_58_161 rfl rfl ?_
                  refine xi_imul (pc' := 163) (v := 729) kc_58_162 rfl rfl ?_
                  refine xi_istore (pc' := 165) (lv' := [(5, .int 729), (4, .int v59), (9, .int v59), (8, .int v55), (7, .int v52), (0, .ref 115), (2, .int x2), (3, .int x3), (6, .int 5)]) kc_58_163 rfl rfl (xm_lt ml_58 rfl) ?_
                  refine xi_iinc (pc' := 168) (x := 5) (v := 6) (lv' := [(6, .int 6), (5, .int 729), (4, .int v59), (9, .int v59), (8, .int v55), (7, .int v52), (0, .ref 115), (2, .int x2), (3, .int x3)]) kc_58_165 rfl rfl rfl rfl (xm_lt ml_58 rfl) ?_
                  refine xi_goto (pc' := 62) kc_58_168 rfl ?_
                  have zc6 : (6 : Int32).toInt = 6 := by decide
                  have zc729 : (729 : Int32).toInt = 729 := by decide
                  refine xw_lv (b := [(0, .ref 115), (2, .int x2), (3, .int x3), (4, .int v59), (5, .int 729), (6, .int 6)]) (lvS_cons (lvS_cons (lvS_cons (lvS_cons (lvS_cons (lvS_cons (lvS_nil (show ([6, 5, 4, 9, 8, 7, 0, 2, 3] : List Nat).Nodup by decide)) rfl) rfl) rfl) rfl) rfl) rfl) ?_
                  exact i16 x2 x3 v59 hh29 (by omega) (by omega) K31 (by omega)
            · refine xi_cmf (pc' := 128) kc_58_125 rfl (xc_le_f (X := v52.toInt) (Y := v55.toInt) rfl rfl (by omega)) ?_
              refine xi_iload (pc' := 130) (x := v52) kc_58_128 rfl rfl ?_
              refine xi_goto (pc' := 135) kc_58_130 rfl ?_
              refine xcps2 (α := Int32) ((v57 : Int32) + v52) (fun v62 ev62 => ?_)
              have rv62 := xc_rng v62
              refine xi_iadd (pc' := 136) (v := v62) kc_58_135 rfl ev62 ?_
              refine xi_istore (pc' := 138) (lv' := [(9, .int v62), (8, .int v55), (7, .int v52), (0, .ref 115), (2, .int x2), (3, .int x3), (4, .int x4), (5, .int 243), (6, .int 5)]) kc_58_136 rfl rfl (xm_lt ml_58 rfl) ?_
              refine xi_iload (pc' := 140) (x := x4) kc_58_138 rfl rfl ?_
              by_cases c63 : x4.toInt < 0
              · refine xi_ift (pc' := 150) kc_58_140 rfl (xc_lt_t (X := x4.toInt) (Y := 0) rfl (by decide) (by omega)) ?_
                refine xi_iload (pc' := 152) (x := v62) kc_58_150 rfl rfl ?_
                refine xi_goto (pc' := 157) kc_58_152 rfl ?_
                refine xi_istore (pc' := 159) (lv' := [(4, .int v62), (9, .int v62), (8, .int v55), (7, .int v52), (0, .ref 115), (2, .int x2), (3, .int x3), (5, .int 243), (6, .int 5)]) kc_58_157 rfl rfl (xm_lt ml_58 rfl) ?_
                refine xi_iload (pc' := 161) (x := 243) kc_58_159 rfl rfl ?_
                refine xi_iconst (pc' := 162) (v := 3) kc_58_161 rfl rfl ?_
                refine xi_imul (pc' := 163) (v := 729) kc_58_162 rfl rfl ?_
                refine xi_istore (pc' := 165) (lv' := [(5, .int 729), (4, .int v62), (9, .int v62), (8, .int v55), (7, .int v52), (0, .ref 115), (2, .int x2), (3, .int x3), (6, .int 5)]) kc_58_163 rfl rfl (xm_lt ml_58 rfl) ?_
                refine xi_iinc (pc' := 168) (x := 5) (v := 6) (lv' := [(6, .int 6), (5, .int 729), (4, .int v62), (9, .int v62), (8, .int v55), (7, .int v52), (0, .ref 115), (2, .int x2), (3, .int x3)]) kc_58_165 rfl rfl rfl rfl (xm_lt ml_58 rfl) ?_
                refine xi_goto (pc' := 62) kc_58_168 rfl ?_
                have zc6 : (6 : Int32).toInt = 6 := by decide
                have zc729 : (729 : Int32).toInt = 729 := by decide
                refine xw_lv (b := [(0, .ref 115), (2, .int x2), (3, .int x3), (4, .int v62), (5, .int 729), (6, .int 6)]) (lvS_cons (lvS_cons (lvS_cons (lvS_cons (lvS_cons (lvS_cons (lvS_nil (show ([6, 5, 4, 9, 8, 7, 0, 2, 3] : List Nat).Nodup by decide)) rfl) rfl) rfl) rfl) rfl) rfl) ?_
                exact i16 x2 x3 v62 hh29 (by omega) (by omega) K31 (by omega)
              · refine xi_iff (pc' := 143) kc_58_140 rfl (xc_lt_f (X := x4.toInt) (Y := 0) rfl (by decide) (by omega)) ?_
                refine xi_iload (pc' := 145) (x := v62) kc_58_143 rfl rfl ?_
                refine xi_iload (pc' := 147) (x := x4) kc_58_145 rfl rfl ?_
                by_cases c64 : x4.toInt ≤ v62.toInt
                · refine xi_cmt (pc' := 155) kc_58_147 rfl (xc_ge_t (X := v62.toInt) (Y := x4.toInt) rfl rfl (by omega)) ?_
                  refine xi_iload (pc' := 157) (x := x4) kc_58_155 rfl rfl ?_
                  refine xi_istore (pc' := 159) (lv' := [(4, .int x4), (9, .int v62), (8, .int v55), (7, .int v52), (0, .ref 115), (2, .int x2), (3, .int x3), (5, .int 243), (6, .int 5)]) kc_58_157 rfl rfl (xm_lt ml_58 rfl) ?_
                  refine xi_iload (pc' := 161) (x := 243) kc_58_159 rfl rfl ?_
                  refine xi_iconst (pc' := 162) (v := 3) kc_58_161 rfl rfl ?_
                  refine xi_imul (pc' := 163) (v := 729) kc_58_162 rfl rfl ?_
                  refine xi_istore (pc' := 165) (lv' := [(5, .int 729), (4, .int x4), (9, .int v62), (8, .int v55), (7, .int v52), (0, .ref 115), (2, .int x2), (3, .int x3), (6, .int 5)]) kc_58_163 rfl rfl (xm_lt ml_58 rfl) ?_
                  refine xi_iinc (pc' := 168) (x := 5) (v := 6) (lv' := [(6, .int 6), (5, .int 729), (4, .int x4), (9, .int v62), (8, .int v55), (7, .int v52), (0, .ref 115), (2, .int x2), (3, .int x3)]) kc_58_165 rfl rfl rfl rfl (xm_lt ml_58 rfl) ?_
                  refine xi_goto (pc' := 62) kc_58_168 rfl ?_
                  have zc6 : (6 : Int32).toInt = 6 := by decide
                  have zc729 : (729 : Int32).toInt = 729 := by decide
                  refine xw_lv (b := [(0, .ref 115), (2, .int x2), (3, .int x3), (4, .int x4), (5, .int 729), (6, .int 6)]) (lvS_cons (lvS_cons (lvS_cons (lvS_cons (lvS_cons (lvS_cons (lvS_nil (show ([6, 5, 4, 9, 8, 7, 0, 2, 3] : List Nat).Nodup by decide)) rfl) rfl) rfl) rfl) rfl) rfl) ?_
                  exact i16 x2 x3 x4 hh29 (by omega) (by omega) K31 (by omega)
                · refine xi_cmf (pc' := 150) kc_58_147 rfl (xc_ge_f (X := v62.toInt) (Y := x4.toInt) rfl rfl (by omega)) ?_
                  refine xi_iload (pc' := 152) (x := v62) kc_58_150 rfl rfl ?_
                  refine xi_goto (pc' := 157) kc_58_152 rfl ?_
                  refine xi_istore (pc' := 159) (lv' := [(4, .int v62), (9, .int v62), (8, .int v55), (7, .int v52), (0, .ref 115), (2, .int x2), (3, .int x3), (5, .int 243), (6, .int 5)]) kc_58_157 rfl rfl (xm_lt ml_58 rfl) ?_
                  refine xi_iload (pc' := 161) (x := 243) kc_58_159 rfl rfl ?_
                  refine xi_iconst (pc' := 162) (v := 3) kc_58_161 rfl rfl ?_
                  refine xi_imul (pc' := 163) (v := 729) kc_58_162 rfl rfl ?_
                  refine xi_istore (pc' := 165) (lv' := [(5, .int 729), (4, .int v62), (9, .int v62), (8, .int v55), (7, .int v52), (0, .ref 115), (2, .int x2), (3, .int x3), (6, .int 5)]) kc_58_163 rfl rfl (xm_lt ml_58 rfl) ?_
                  refine xi_iinc (pc' := 168) (x := 5) (v := 6) (lv' := [(6, .int 6), (5, .int 729), (4, .int v62), (9, .int v62), (8, .int v55), (7, .int v52), (0, .ref 115), (2, .int x2), (3, .int x3)]) kc_58_165 rfl rfl rfl rfl (xm_lt ml_58 rfl) ?_
                  refine xi_goto (pc' := 62) kc_58_168 rfl ?_
                  have zc6 : (6 : Int32).toInt = 6 := by decide
                  have zc729 : (729 : Int32).toInt = 729 := by decide
                  refine xw_lv (b := [(0, .ref 115), (2, .int x2), (3, .int x3), (4, .int v62), (5, .int 729), (6, .int 6)]) (lvS_cons (lvS_cons (lvS_cons (lvS_cons (lvS_cons (lvS_cons (lvS_nil (show ([6, 5, 4, 9, 8, 7, 0, 2, 3] : List Nat).Nodup by decide)) rfl) rfl) rfl) rfl) rfl) rfl) ?_
                  exact i16 x2 x3 v62 hh29 (by omega) (by omega) K31 (by omega)
        · refine xi_ift (pc' := 159) kc_58_77 rfl (xc_ne_t (X := v26.toInt) (Y := 0) rfl (by decide) (by omega)) ?_
          refine xi_iload (pc' := 161) (x := 243) kc_58_159 rfl rfl ?_
          refine xi_iconst (pc' := 162) (v := 3) kc_58_161 rfl rfl ?_
          refine xi_imul (pc' := 163) (v := 729) kc_58_162 rfl rfl ?_
          refine xi_istore (pc' := 165) (lv' := [(5, .int 729), (0, .ref 115), (2, .int x2), (3, .int x3), (4, .int x4), (6, .int 5)]) kc_58_163 rfl rfl (xm_lt ml_58 rfl) ?_
          refine xi_iinc (pc' := 168) (x := 5) (v := 6) (lv' := [(6, .int 6), (5, .int 729), (0, .ref 115), (2, .int x2), (3, .int x3), (4, .int x4)]) kc_58_165 rfl rfl rfl rfl (xm_lt ml_58 rfl) ?_
          refine xi_goto (pc' := 62) kc_58_168 rfl ?_
          have zc6 : (6 : Int32).toInt = 6 := by decide
          have zc729 : (729 : Int32).toInt = 729 := by decide
          refine xw_lv (b := [(0, .ref 115), (2, .int x2), (3, .int x3), (4, .int x4), (5, .int 729), (6, .int 6)]) (lvS_cons (lvS_cons (lvS_cons (lvS_cons (lvS_cons (lvS_cons (lvS_nil (show ([6, 5, 0, 2, 3, 4] : List Nat).Nodup by decide)) rfl) rfl) rfl) rfl) rfl) rfl) ?_
          exact i16 x2 x3 x4 h (by omega) (by omega) K (by omega)
    · intro x2 x3 x4 h b2 b3 K hm
      have rx4 := xc_rng x4
      refine xi_iload (pc' := 64) (x := 6) kc_58_62 rfl rfl ?_
      refine xi_aload_n (pc' := 65) (x := 115) kc_58_64 rfl rfl ?_
      refine xp_115 K.1 (fun u1 u2 u3 u4 u5 u6 u7 u8 u9 u10 u11 u12 u13 bu1 bu2 bu3 bu4 bu5 bu6 bu7 bu8 bu9 bu10 bu11 bu12 bu13 A14 => ?_)
      refine xi_getfield (pc' := 68) (v := .int u10) kc_58_65 rfl rfl rfl A14 rfl ?_
      by_cases c15 : u10.toInt ≤ 6
      · refine xi_cmt (pc' := 171) kc_58_68 rfl (xc_ge_t (X := 6) (Y := u10.toInt) (by decide) rfl (by omega)) ?_
        refine xi_aload_n (pc' := 172) (x := 115) kc_58_171 rfl rfl ?_
        refine xi_getfield (pc' := 175) (v := .ref 155) kc_58_172 rfl rfl rfl A14 rfl ?_
        refine xi_iload_n (pc' := 176) (x := x3) kc_58_175 rfl rfl ?_
        refine xi_iload (pc' := 178) (x := x4) kc_58_176 rfl rfl ?_
        by_cases c16 : 0 ≤ x4.toInt
        · refine xi_ift (pc' := 185) kc_58_178 rfl (xc_ge_t (X := x4.toInt) (Y := 0) rfl (by decide) (by omega)) ?_
          refine xi_iload (pc' := 187) (x := x4) kc_58_185 rfl rfl ?_
          refine xcps4 (xk_arr K.1 xD_155) (fun y17 A17 hy17 ry17 => ?_)
          refine xcps4 (xj_set (v := x4) hy17 ry17 x3 (by first | omega | decide) (by first | omega | decide)) (fun y18 s18 hy18 ry18 => ?_)
          refine xi_iastore (pc' := 188) (x' := y18) kc_58_187 rfl A17 rfl (xi_in (by omega) (by rw [hy17]; omega)) s18 (fun hh18 eh18 => ?_)
          have K19 := xk_pa K (xk_wa rfl) xD_155 hy18 ry18 eh18
          refine xcps2 (α := Int32) (x3 + (-1)) (fun v20 ev20 => ?_)
          have zv20 : v20.toInt = (x3.toInt + (-1)) := by rw [← ev20]; exact (xz_add (X := x3.toInt) (Y := (-1)) rfl (by decide) (by omega) (by omega)).trans (by omega)
          refine xi_iinc (pc' := 191) (x := x3) (v := v20) (lv' := [(3, .int v20), (0, .ref 115), (2, .int x2), (4, .int x4), (5, .int 729), (6, .int 6)]) kc_58_188 rfl rfl ev20 rfl (xm_lt ml_58 rfl) ?_
          refine xi_goto (pc' := 48) kc_58_191 rfl ?_
          refine xw_lv (b := [(0, .ref 115), (2, .int x2), (3, .int v20)]) (lvS_cons (lvS_cons (lvS_cons (lvS_nil (show ([3, 0, 2, 4, 5, 6] : List Nat).Nodup by decide)) rfl) rfl) rfl) ?_
          exact i9 x2 v20 hh18 (by omega) (by omega) K19 (by omega)
        · refine xi_iff (pc' := 181) kc_58_178 rfl (xc_ge_f (X := x4.toInt) (Y := 0) rfl (by decide) (by omega)) ?_
          refine xi_iconst (pc' := 182) (v := 0) kc_58_181 rfl rfl ?_
          refine xi_goto (pc' := 187) kc_58_182 rfl ?_
          refine xcps4 (xk_arr K.1 xD_155) (fun y21 A21 hy21 ry21 => ?_)
          refine xcps4 (xj_set (v := 0) hy21 ry21 x3 (by first | omega | decide) (by first | omega | decide)) (fun y22 s22 hy22 ry22 => ?_)
          refine xi_iastore (pc' := 188) (x' := y22) kc_58_187 rfl A21 rfl (xi_in (by omega) (by rw [hy21]; omega)) s22 (fun hh22 eh22 => ?_)
          have K23 := xk_pa K (xk_wa rfl) xD_155 hy22 ry22 eh22
          refine xcps2 (α := Int32) (x3 + (-1)) (fun v24 ev24 => ?_)
          have zv24 : v24.toInt = (x3.toInt + (-1)) := by rw [← ev24]; exact (xz_add (X := x3.toInt) (Y := (-1)) rfl (by decide) (by omega) (by omega)).trans (by omega)
          refine xi_iinc (pc' := 191) (x := x3) (v := v24) (lv' := [(3, .int v24), (0, .ref 115), (2, .int x2), (4, .int x4), (5, .int 729), (6, .int 6)]) kc_58_188 rfl rfl ev24 rfl (xm_lt ml_58 rfl) ?_
          refine xi_goto (pc' := 48) kc_58_191 rfl ?_
          refine xw_lv (b := [(0, .ref 115), (2, .int x2), (3, .int v24)]) (lvS_cons (lvS_cons (lvS_cons (lvS_nil (show ([3, 0, 2, 4, 5, 6] : List Nat).Nodup by decide)) rfl) rfl) rfl) ?_
          exact i9 x2 v24 hh22 (by omega) (by omega) K23 (by omega)
      · refine xi_cmf (pc' := 71) kc_58_68 rfl (xc_ge_f (X := 6) (Y := u10.toInt) (by decide) rfl (by omega)) ?_
        refine xi_iload_n (pc' := 72) (x := x3) kc_58_71 rfl rfl ?_
        refine xi_iload (pc' := 74) (x := 729) kc_58_72 rfl rfl ?_
        refine xcps2 (α := Int32) (x3 / 729) (fun v25 ev25 => ?_)
        have dv25 : v25.toInt = x3.toInt / 729 := by rw [← ev25]; exact xz_dive (X := x3.toInt) (Y := 729) rfl (by decide) (by omega) (by decide)
        have bv25 : 0 ≤ v25.toInt ∧ v25.toInt ≤ 8 := by omega
        refine xi_idiv (pc' := 75) (v := v25) kc_58_74 rfl ev25 (by decide) ?_
        refine xi_iconst (pc' := 76) (v := 3) kc_58_75 rfl rfl ?_
        refine xcps2 (α := Int32) (v25 - v25 / 3 * 3) (fun v26 ev26 => ?_)
        have dv26 : v26.toInt = v25.toInt % 3 := by rw [← ev26]; exact xz_reme (X := v25.toInt) (Y := 3) rfl (by decide) (by omega) (by decide)
        have bv26 : 0 ≤ v26.toInt ∧ v26.toInt ≤ 2 := by omega
        refine xi_irem (pc' := 77) (v := v26) kc_58_76 rfl ev26 (by decide) ?_
        by_cases c27 : v26.toInt = 0
        · refine xi_iff (pc' := 80) kc_58_77 rfl (xc_ne_f (X := v26.toInt) (Y := 0) rfl (by decide) (by omega)) ?_
          refine xi_aload_n (pc' := 81) (x := 115) kc_58_80 rfl rfl ?_
          refine xi_iload_n (pc' := 82) (x := x3) kc_58_81 rfl rfl ?_
          refine xi_iload (pc' := 84) (x := 6) kc_58_82 rfl rfl ?_
          refine xi_virtual (mj := 59) (as := [.int x3, .int 6]) (st1 := []) (lv0 := [(0, .ref 115), (1, .int x3), (2, .int 6)]) kc_58_84 rfl rfl rfl rfl rfl A14 (Nat.le_of_ble_eq_true rfl) (hJ _ _ _ _ (by decide)) (xm_le ml_59 rfl) rfl ?_
          have zc6 : (6 : Int32).toInt = 6 := by decide
          refine mt_59_0 hJ hov1 hov2 (d := d + 3) (x1 := x3) (x2 := 6) K.1 (by first | omega | decide) (by first | omega | decide) (fun r28 hh29 br28 K30 => ?_)
          have K31 := xk_tr K K30 rfl
          refine xp_115 K31.1 (fun u32 u33 u34 u35 u36 u37 u38 u39 u40 u41 u42 u43 u44 bu32 bu33 bu34 bu35 bu36 bu37 bu38 bu39 bu40 bu41 bu42 bu43 bu44 A45 => ?_)
          have e46 : u2 = u33 := xk_eqi (q := 1) K30 rfl A14 A45 rfl rfl
          subst e46
          have e47 : u5 = u36 := xk_eqi (q := 23) K30 rfl A14 A45 rfl rfl
          subst e47
          show xw J ov (d + 7) 58 (87, [(0, .ref 115), (2, .int x2), (3, .int x3), (4, .int x4), (5, .int 729), (6, .int 6)], [.int r28], hh29) _
          by_cases c48 : r28.toInt = 0
          · refine xi_ift (pc' := 159) kc_58_87 rfl (xc_eq_t (X := r28.toInt) (Y := 0) rfl (by decide) (by omega)) ?_
            refine xi_iload (pc' := 161) (x := 729) kc_58_159 rfl rfl ?_
            refine xi_iconst (pc' := 162) (v := 3) kc_58_161 rfl rfl ?_
            refine xi_imul (pc' := 163) (v := 2187) kc_58_162 rfl rfl ?_
            refine xi_istore (pc' := 165) (lv' := [(5, .int 2187), (0, .ref 115), (2, .int x2), (3, .int x3), (4, .int x4), (6, .int 6)]) kc_58_163 rfl rfl (xm_lt ml_58 rfl) ?_
            refine xi_iinc (pc' := 168) (x := 6) (v := 7) (lv' := [(6, .int 7), (5, .int 2187), (0, .ref 115), (2, .int x2), (3, .int x3), (4, .int x4)]) kc_58_165 rfl rfl rfl rfl (xm_lt ml_58 rfl) ?_
            refine xi_goto (pc' := 62) kc_58_168 rfl ?_
            have zc7 : (7 : Int32).toInt = 7 := by decide
            have zc2187 : (2187 : Int32).toInt = 2187 := by decide
            refine xw_lv (b := [(0, .ref 115), (2, .int x2), (3, .int x3), (4, .int x4), (5, .int 2187), (6, .int 7)]) (lvS_cons (lvS_cons (lvS_cons (lvS_cons (lvS_cons (lvS_cons (lvS_nil (show ([6, 5, 0, 2, 3, 4] : List Nat).Nodup by decide)) rfl) rfl) rfl) rfl) rfl) rfl) ?_
            exact i17 x2 x3 x4 hh29 (by omega) (by omega) K31 (by omega)
          · refine xi_iff (pc' := 90) kc_58_87 rfl (xc_eq_f (X := r28.toInt) (Y := 0) rfl (by decide) (by omega)) ?_
            refine xi_aload_n (pc' := 91) (x := 115) kc_58_90 rfl rfl ?_
            refine xi_getfield (pc' := 94) (v := .ref 155) kc_58_91 rfl rfl rfl A45 rfl ?_
            refine xi_iload_n (pc' := 95) (x := x3) kc_58_94 rfl rfl ?_
            refine xi_iload (pc' := 97) (x := 729) kc_58_95 rfl rfl ?_
            refine xcps2 (α := Int32) (x3 + 729) (fun v49 ev49 => ?_)
            have zv49 : v49.toInt = (x3.toInt + 729) := by rw [← ev49]; exact (xz_add (X := x3.toInt) (Y := 729) rfl (by decide) (by omega) (by omega)).trans (by omega)
            refine xi_iadd (pc' := 98) (v := v49) kc_58_97 rfl ev49 ?_
            have t50 : (-729) ≤ x3.toInt ∧ x3.toInt ≤ 5831 := by omega
            refine xcps4 (xk_arr K31.1 xD_155) (fun y51 A51 hy51 ry51 => ?_)
            refine xcps4 (xj_get hy51 ry51 (i := v49) (by rw [zv49]; omega) (by rw [zv49]; omega)) (fun v52 ev52 bv52 dv52 => ?_)
            refine xi_iaload (pc' := 99) (v := v52) kc_58_98 rfl A51 (by decide) rfl (xi_in (by rw [zv49]; omega) (by rw [hy51]; rw [zv49]; omega)) ev52 ?_
            refine xi_istore (pc' := 101) (lv' := [(7, .int v52), (0, .ref 115), (2, .int x2), (3, .int x3), (4, .int x4), (5, .int 729), (6, .int 6)]) kc_58_99 rfl rfl (xm_lt ml_58 rfl) ?_
            refine xi_aload_n (pc' := 102) (x := 115) kc_58_101 rfl rfl ?_
            refine xi_getfield (pc' := 105) (v := .ref 155) kc_58_102 rfl rfl rfl A45 rfl ?_
            refine xi_iload_n (pc' := 106) (x := x3) kc_58_105 rfl rfl ?_
            refine xi_iconst (pc' := 107) (v := 2) kc_58_106 rfl rfl ?_
            refine xi_iload (pc' := 109) (x := 729) kc_58_107 rfl rfl ?_
            refine xi_imul (pc' := 110) (v := 1458) kc_58_109 rfl rfl ?_
            refine xcps2 (α := Int32) (x3 + 1458) (fun v53 ev53 => ?_)
            have zv53 : v53.toInt = (x3.toInt + 1458) := by rw [← ev53]; exact (xz_add (X := x3.toInt) (Y := 1458) rfl (by decide) (by omega) (by omega)).trans (by omega)
            refine xi_iadd (pc' := 111) (v := v53) kc_58_110 rfl ev53 ?_
            have t54 : (-1458) ≤ x3.toInt ∧ x3.toInt ≤ 5102 := by omega
            refine xcps4 (xj_get hy51 ry51 (i := v53) (by rw [zv53]; omega) (by rw [zv53]; omega)) (fun v55 ev55 bv55 dv55 => ?_)
            refine xi_iaload (pc' := 112) (v := v55) kc_58_111 rfl A51 (by decide) rfl (xi_in (by rw [zv53]; omega) (by rw [hy51]; rw [zv53]; omega)) ev55 ?_
            refine xi_istore (pc' := 114) (lv' := [(8, .int v55), (7, .int v52), (0, .ref 115), (2, .int x2), (3, .int x3), (4, .int x4), (5, .int 729), (6, .int 6)]) kc_58_112 rfl rfl (xm_lt ml_58 rfl) ?_
            refine xi_aload_n (pc' := 115) (x := 115) kc_58_114 rfl rfl ?_
            refine xi_getfield (pc' := 118) (v := .ref 153) kc_58_115 rfl rfl rfl A45 rfl ?_
            refine xi_iload (pc' := 120) (x := 6) kc_58_118 rfl rfl ?_
            refine xcps4 (xk_arr K31.1 xD_153) (fun y56 A56 hy56 ry56 => ?_)
            refine xcps4 (xj_get hy56 ry56 (i := 6) (by decide) (by decide)) (fun v57 ev57 bv57 dv57 => ?_)
            refine xi_iaload (pc' := 121) (v := v57) kc_58_120 rfl A56 (by decide) rfl (xi_in (by decide) (by rw [hy56]; decide)) ev57 ?_
            refine xi_iload (pc' := 123) (x := v52) kc_58_121 rfl rfl ?_
            refine xi_iload (pc' := 125) (x := v55) kc_58_123 rfl rfl ?_
            by_cases c58 : v52.toInt ≤ v55.toInt
            · refine xi_cmt (pc' := 133) kc_58_125 rfl (xc_le_t (X := v52.toInt) (Y := v55.toInt) rfl rfl (by omega)) ?_
              refine xi_iload (pc' := 135) (x := v55) kc_58_133 rfl rfl ?_
              refine xcps2 (α := Int32) ((v57 : Int32) + v55) (fun v59 ev59 => ?_)
              have rv59 := xc_rng v59
              refine xi_iadd (pc' := 136) (v := v59) kc_58_135 rfl ev59 ?_
              refine xi_istore (pc' := 138) (lv' := [(9, .int v59), (8, .int v55), (7, .int v52), (0, .ref 115), (2, .int x2), (3, .int x3), (4, .int x4), (5, .int 729), (6, .int 6)]) kc_58_136 rfl rfl (xm_lt ml_58 rfl) ?_
              refine xi_iload (pc' := 140) (x := x4) kc_58_138 rfl rfl ?_
              by_cases c60 : x4.toInt < 0
              · refine xi_ift (pc' := 150) kc_58_140 rfl (xc_lt_t (X := x4.toInt) (Y := 0) rfl (by decide) (by omega)) ?_
                refine xi_iload (pc' := 152) (x := v59) kc_58_150 rfl rfl ?_
                refine xi_goto (pc' := 157) kc_58_152 rfl ?_
                refine xi_istore (pc' := 159) (lv' := [(4, .int v59), (9, .int v59), (8, .int v55), (7, .int v52), (0, .ref 115), (2, .int x2), (3, .int x3), (5, .int 729), (6, .int 6)]) kc_58_157 rfl rfl (xm_lt ml_58 rfl) ?_
                refine xi_iload (pc' := 161) (x := 729) kc_58_159 rfl rfl ?_
                refine xi_iconst (pc' := 162) (v := 3) kc_58_161 rfl rfl ?_
                refine xi_imul (pc' := 163) (v := 2187) kc_58_162 rfl rfl ?_
                refine xi_istore (pc' := 165) (lv' := [(5, .int 2187), (4, .int v59), (9, .int v59), (8, .int v55), (7, .int v52), (0, .ref 115), (2, .int x2), (3, .int x3), (6, .int 6)]) kc_58_163 rfl rfl (xm_lt ml_58 rfl) ?_
                refine xi_iinc (pc' := 168) (x := 6) (v := 7) (lv' := [(6, .int 7), (5, .int 2187), (4, .int v59), (9, .int v59), (8, .int v55), (7, .int v52), (0, .ref 115), (2, .int x2), (3, .int x3)]) kc_58_165 rfl rfl rfl rfl (xm_lt ml_58 rfl) ?_
                refine xi_goto (pc' := 62) kc_58_168 rfl ?_
                have zc7 : (7 : Int32).toInt = 7 := by decide
                have zc2187 : (2187 : Int32).toInt = 2187 := by decide
                refine xw_lv (b := [(0, .ref 115), (2, .int x2), (3, .int x3), (4, .int v59), (5, .int 2187), (6, .int 7)]) (lvS_cons (lvS_cons (lvS_cons (lvS_cons (lvS_cons (lvS_cons (lvS_nil (show ([6, 5, 4, 9, 8, 7, 0, 2, 3] : List Nat).Nodup by decide)) rfl) rfl) rfl) rfl) rfl) rfl) ?_
                exact i17 x2 x3 v59 hh29 (by omega) (by omega) K31 (by omega)
              · refine xi_iff (pc' := 143) kc_58_140 rfl (xc_lt_f (X := x4.toInt) (Y := 0) rfl (by decide) (by omega)) ?_
                refine xi_iload (pc' := 145) (x := v59) kc_58_143 rfl rfl ?_
                refine xi_iload (pc' := 147) (x := x4) kc_58_145 rfl rfl ?_
                by_cases c61 : x4.toInt ≤ v59.toInt
                · refine xi_cmt (pc' := 155) kc_58_147 rfl (xc_ge_t (X := v59.toInt) (Y := x4.toInt) rfl rfl (by omega)) ?_
                  refine xi_iload (pc' := 157) (x := x4) kc_58_155 rfl rfl ?_
                  refine xi_istore (pc' := 159) (lv' := [(4, .int x4), (9, .int v59), (8, .int v55), (7, .int v52), (0, .ref 115), (2, .int x2), (3, .int x3), (5, .int 729), (6, .int 6)]) kc_58_157 rfl rfl (xm_lt ml_58 rfl) ?_
                  refine xi_iload (pc' := 161) (x := 729) kc_58_159 rfl rfl ?_
                  refine xi_iconst (pc' := 162) (v := 3) kc_58_161 rfl rfl ?_
                  refine xi_imul (pc' := 163) (v := 2187) kc_58_162 rfl rfl ?_
                  refine xi_istore (pc' := 165) (lv' := [(5, .int 2187), (4, .int x4), (9, .int v59), (8, .int v55), (7, .int v52), (0, .ref 115), (2, .int x2), (3, .int x3), (6, .int 6)]) kc_58_163 rfl rfl (xm_lt ml_58 rfl) ?_
                  refine xi_iinc (pc' := 168) (x := 6) (v := 7) (lv' := [(6, .int 7), (5, .int 2187), (4, .int x4), (9, .int v59), (8, .int v55), (7, .int v52), (0, .ref 115), (2, .int x2), (3, .int x3)]) kc_58_165 rfl rfl rfl rfl (xm_lt ml_58 rfl) ?_
                  refine xi_goto (pc' := 62) kc_58_168 rfl ?_
                  have zc7 : (7 : Int32).toInt = 7 := by decide
                  have zc2187 : (2187 : Int32).toInt = 2187 := by decide
                  refine xw_lv (b := [(0, .ref 115), (2, .int x2), (3, .int x3), (4, .int x4), (5, .int 2187), (6, .int 7)]) (lvS_cons (lvS_cons (lvS_cons (lvS_cons (lvS_cons (lvS_cons (lvS_nil (show ([6, 5, 4, 9, 8, 7, 0, 2, 3] : List Nat).Nodup by decide)) rfl) rfl) rfl) rfl) rfl) rfl) ?_
                  exact i17 x2 x3 x4 hh29 (by omega) (by omega) K31 (by omega)
                · refine xi_cmf (pc' := 150) kc_58_147 rfl (xc_ge_f (X := v59.toInt) (Y := x4.toInt) rfl rfl (by omega)) ?_
                  refine xi_iload (pc' := 152) (x := v59) kc_58_150 rfl rfl ?_
                  refine xi_goto (pc' := 157) kc_58_152 rfl ?_
                  refine xi_istore (pc' := 159) (lv' := [(4, .int v59), (9, .int v59), (8, .int v55), (7, .int v52), (0, .ref 115), (2, .int x2), (3, .int x3), (5, .int 729), (6, .int 6)]) kc_58_157 rfl rfl (xm_lt ml_58 rfl) ?_
                  refine xi_iload (pc' := 161) (x := 729) kc_58_159 rfl rfl ?_
                  refine xi_iconst (pc' := 162) (v := 3) kc_58_161 rfl rfl ?_
                  refine xi_imul (pc' := 163) (v := 2187) kc_58_162 rfl rfl ?_
                  refine xi_istore (pc' := 165) (lv' := [(5, .int 2187), (4, .int v59), (9, .int v59), (8, .int v55), (7, .int v52), (0, .ref 115), (2, .int x2), (3, .int x3), (6, .int 6)]) kc_58_163 rfl rfl (xm_lt ml_58 rfl) ?_
                  refine xi_iinc (pc' := 168) (x := 6) (v := 7) (lv' := [(6, .int 7), (5, .int 2187), (4, .int v59), (9, .int v59), (8, .int v55), (7, .int v52), (0, .ref 115), (2, .int x2), (3, .int x3)]) kc_58_165 rfl rfl rfl rfl (xm_lt ml_58 rfl) ?_
                  refine xi_goto (pc' := 62) kc_58_168 rfl ?_
                  have zc7 : (7 : Int32).toInt = 7 := by decide
                  have zc2187 : (2187 : Int32).toInt = 2187 := by decide
                  refine xw_lv (b := [(0, .ref 115), (2, .int x2), (3, .int x3), (4, .int v59), (5, .int 2187), (6, .int 7)]) (lvS_cons (lvS_cons (lvS_cons (lvS_cons (lvS_cons (lvS_cons (lvS_nil (show ([6, 5, 4, 9, 8, 7, 0, 2, 3] : List Nat).Nodup by decide)) rfl) rfl) rfl) rfl) rfl) rfl) ?_
                  exact i17 x2 x3 v59 hh29 (by omega) (by omega) K31 (by omega)
            · refine xi_cmf (pc' := 128) kc_58_125 rfl (xc_le_f (X := v52.toInt) (Y := v55.toInt) rfl rfl (by omega)) ?_
              refine xi_iload (pc' := 130) (x := v52) kc_58_128 rfl rfl ?_
              refine xi_goto (pc' := 135) kc_58_130 rfl ?_
              refine xcps2 (α := Int32) ((v57 : Int32) + v52) (fun v62 ev62 => ?_)
              have rv62 := xc_rng v62
              refine xi_iadd (pc' := 136) (v := v62) kc_58_135 rfl ev62 ?_
              refine xi_istore (pc' := 138) (lv' := [(9, .int v62), (8, .int v55), (7, .int v52), (0, .ref 115), (2, .int x2), (3, .int x3), (4, .int x4), (5, .int 729), (6, .int 6)]) kc_58_136 rfl rfl (xm_lt ml_58 rfl) ?_
              refine xi_iload (pc' := 140) (x := x4) kc_58_138 rfl rfl ?_
              by_cases c63 : x4.toInt < 0
              · refine xi_ift (pc' := 150) kc_58_140 rfl (xc_lt_t (X := x4.toInt) (Y := 0) rfl (by decide) (by omega)) ?_
                refine xi_iload (pc' := 152) (x := v62) kc_58_150 rfl rfl ?_
                refine xi_goto (pc' := 157) kc_58_152 rfl ?_
                refine xi_istore (pc' := 159) (lv' := [(4, .int v62), (9, .int v62), (8, .int v55), (7, .int v52), (0, .ref 115), (2, .int x2), (3, .int x3), (5, .int 729), (6, .int 6)]) kc_58_157 rfl rfl (xm_lt ml_58 rfl) ?_
                refine xi_iload (pc' := 161) (x := 729) kc_58_159 rfl rfl ?_
                refine xi_iconst (pc' := 162) (v := 3) kc_58_161 rfl rfl ?_
                refine xi_imul (pc' := 163) (v := 2187) kc_58_162 rfl rfl ?_
                refine xi_istore (pc' := 165) (lv' := [(5, .int 2187), (4, .int v62), (9, .int v62), (8, .int v55), (7, .int v52), (0, .ref 115), (2, .int x2), (3, .int x3), (6, .int 6)]) kc_58_163 rfl rfl (xm_lt ml_58 rfl) ?_
                refine xi_iinc (pc' := 168) (x := 6) (v := 7) (lv' := [(6, .int 7), (5, .int 2187), (4, .int v62), (9, .int v62), (8, .int v55), (7, .int v52), (0, .ref 115), (2, .int x2), (3, .int x3)]) kc_58_165 rfl rfl rfl rfl (xm_lt ml_58 rfl) ?_
                refine xi_goto (pc' := 62) kc_58_168 rfl ?_
                have zc7 : (7 : Int32).toInt = 7 := by decide
                have zc2187 : (2187 : Int32).toInt = 2187 := by decide
                refine xw_lv (b := [(0, .ref 115), (2, .int x2), (3, .int x3), (4, .int v62), (5, .int 2187), (6, .int 7)]) (lvS_cons (lvS_cons (lvS_cons (lvS_cons (lvS_cons (lvS_cons (lvS_nil (show ([6, 5, 4, 9, 8, 7, 0, 2, 3] : List Nat).Nodup by decide)) rfl) rfl) rfl) rfl) rfl) rfl) ?_
                exact i17 x2 x3 v62 hh29 (by omega) (by omega) K31 (by omega)
              · refine xi_iff (pc' := 143) kc_58_140 rfl (xc_lt_f (X := x4.toInt) (Y := 0) rfl (by decide) (by omega)) ?_
                refine xi_iload (pc' := 145) (x := v62) kc_58_143 rfl rfl ?_
                refine xi_iload (pc' := 147) (x := x4) kc_58_145 rfl rfl ?_
                by_cases c64 : x4.toInt ≤ v62.toInt
                · refine xi_cmt (pc' := 155) kc_58_147 rfl (xc_ge_t (X := v62.toInt) (Y := x4.toInt) rfl rfl (by omega)) ?_
                  refine xi_iload (pc' := 157) (x := x4) kc_58_155 rfl rfl ?_
                  refine xi_istore (pc' := 159) (lv' := [(4, .int x4), (9, .int v62), (8, .int v55), (7, .int v52), (0, .ref 115), (2, .int x2), (3, .int x3), (5, .int 729), (6, .int 6)]) kc_58_157 rfl rfl (xm_lt ml_58 rfl) ?_
                  refine xi_iload (pc' := 161) (x := 729) kc_58_159 rfl rfl ?_
                  refine xi_iconst (pc' := 162) (v := 3) kc_58_161 rfl rfl ?_
                  refine xi_imul (pc' := 163) (v := 2187) kc_58_162 rfl rfl ?_
                  refine xi_istore (pc' := 165) (lv' := [(5, .int 2187), (4, .int x4), (9, .int v62), (8, .int v55), (7, .int v52), (0, .ref 115), (2, .int x2), (3, .int x3), (6, .int 6)]) kc_58_163 rfl rfl (xm_lt ml_58 rfl) ?_
                  refine xi_iinc (pc' := 168) (x := 6) (v := 7) (lv' := [(6, .int 7), (5, .int 2187), (4, .int x4), (9, .int v62), (8, .int v55), (7, .int v52), (0, .ref 115), (2, .int x2), (3, .int x3)]) kc_58_165 rfl rfl rfl rfl (xm_lt ml_58 rfl) ?_
                  refine xi_goto (pc' := 62) kc_58_168 rfl ?_
                  have zc7 : (7 : Int32).toInt = 7 := by decide
                  have zc2187 : (2187 : Int32).toInt = 2187 := by decide
                  refine xw_lv (b := [(0, .ref 115), (2, .int x2), (3, .int x3), (4, .int x4), (5, .int 2187), (6, .int 7)]) (lvS_cons (lvS_cons (lvS_cons (lvS_cons (lvS_cons (lvS_cons (lvS_nil (show ([6, 5, 4, 9, 8, 7, 0, 2, 3] : List Nat).Nodup by decide)) rfl) rfl) rfl) rfl) rfl) rfl) ?_
                  exact i17 x2 x3 x4 hh29 (by omega) (by omega) K31 (by omega)
                · refine xi_cmf (pc' := 150) kc_58_147 rfl (xc_ge_f (X := v62.toInt) (Y := x4.toInt) rfl rfl (by omega)) ?_
                  refine xi_iload (pc' := 152) (x := v62) kc_58_150 rfl rfl ?_
                  refine xi_goto (pc' := 157) kc_58_152 rfl ?_
                  refine xi_istore (pc' := 159) (lv' := [(4, .int v62), (9, .int v62), (8, .int v55), (7, .int v52), (0, .ref 115), (2, .int x2), (3, .int x3), (5, .int 729), (6, .int 6)]) kc_58_157 rfl rfl (xm_lt ml_58 rfl) ?_
                  refine xi_iload (pc' := 161) (x := 729) kc_58_159 rfl rfl ?_
                  refine xi_iconst (pc' := 162) (v := 3) kc_58_161 rfl rfl ?_
                  refine xi_imul (pc' := 163) (v := 2187) kc_58_162 rfl rfl ?_
                  refine xi_istore (pc' := 165) (lv' := [(5, .int 2187), (4, .int v62), (9, .int v62), (8, .int v55), (7, .int v52), (0, .ref 115), (2, .int x2), (3, .int x3), (6, .int 6)]) kc_58_163 rfl rfl (xm_lt ml_58 rfl) ?_
                  refine xi_iinc (pc' := 168) (x := 6) (v := 7) (lv' := [(6, .int 7), (5, .int 2187), (4, .int v62), (9, .int v62), (8, .int v55), (7, .int v52), (0, .ref 115), (2, .int x2), (3, .int x3)]) kc_58_165 rfl rfl rfl rfl (xm_lt ml_58 rfl) ?_
                  refine xi_goto (pc' := 62) kc_58_168 rfl ?_
                  have zc7 : (7 : Int32).toInt = 7 := by decide
                  have zc2187 : (2187 : Int32).toInt = 2187 := by decide
                  refine xw_lv (b := [(0, .ref 115), (2, .int x2), (3, .int x3), (4, .int v62), (5, .int 2187), (6, .int 7)]) (lvS_cons (lvS_cons (lvS_cons (lvS_cons (lvS_cons (lvS_cons (lvS_nil (show ([6, 5, 4, 9, 8, 7, 0, 2, 3] : List Nat).Nodup by decide)) rfl) rfl) rfl) rfl) rfl) rfl) ?_
                  exact i17 x2 x3 v62 hh29 (by omega) (by omega) K31 (by omega)
        · refine xi_ift (pc' := 159) kc_58_77 rfl (xc_ne_t (X := v26.toInt) (Y := 0) rfl (by decide) (by omega)) ?_
          refine xi_iload (pc' := 161) (x := 729) kc_58_159 rfl rfl ?_
          refine xi_iconst (pc' := 162) (v := 3) kc_58_161 rfl rfl ?_
          refine xi_imul (pc' := 163) (v := 2187) kc_58_162 rfl rfl ?_
          refine xi_istore (pc' := 165) (lv' := [(5, .int 2187), (0, .ref 115), (2, .int x2), (3, .int x3), (4, .int x4), (6, .int 6)]) kc_58_163 rfl rfl (xm_lt ml_58 rfl) ?_
          refine xi_iinc (pc' := 168) (x := 6) (v := 7) (lv' := [(6, .int 7), (5, .int 2187), (0, .ref 115), (2, .int x2), (3, .int x3), (4, .int x4)]) kc_58_165 rfl rfl rfl rfl (xm_lt ml_58 rfl) ?_
          refine xi_goto (pc' := 62) kc_58_168 rfl ?_
          have zc7 : (7 : Int32).toInt = 7 := by decide
          have zc2187 : (2187 : Int32).toInt = 2187 := by decide
          refine xw_lv (b := [(0, .ref 115), (2, .int x2), (3, .int x3), (4, .int x4), (5, .int 2187), (6, .int 7)]) (lvS_cons (lvS_cons (lvS_cons (lvS_cons (lvS_cons (lvS_cons (lvS_nil (show ([6, 5, 0, 2, 3, 4] : List Nat).Nodup by decide)) rfl) rfl) rfl) rfl) rfl) rfl) ?_
          exact i17 x2 x3 x4 h (by omega) (by omega) K (by omega)
    · intro x2 x3 x4 h b2 b3 K hm
      have rx4 := xc_rng x4
      refine xi_iload (pc' := 64) (x := 7) kc_58_62 rfl rfl ?_
      refine xi_aload_n (pc' := 65) (x := 115) kc_58_64 rfl rfl ?_
      refine xp_115 K.1 (fun u1 u2 u3 u4 u5 u6 u7 u8 u9 u10 u11 u12 u13 bu1 bu2 bu3 bu4 bu5 bu6 bu7 bu8 bu9 bu10 bu11 bu12 bu13 A14 => ?_)
      refine xi_getfield (pc' := 68) (v := .int u10) kc_58_65 rfl rfl rfl A14 rfl ?_
      by_cases c15 : u10.toInt ≤ 7
      · refine xi_cmt (pc' := 171) kc_58_68 rfl (xc_ge_t (X := 7) (Y := u10.toInt) (by decide) rfl (by omega)) ?_
        refine xi_aload_n (pc' := 172) (x := 115) kc_58_171 rfl rfl ?_
        refine xi_getfield (pc' := 175) (v := .ref 155) kc_58_172 rfl rfl rfl A14 rfl ?_
        refine xi_iload_n (pc' := 176) (x := x3) kc_58_175 rfl rfl ?_
        refine xi_iload (pc' := 178) (x := x4) kc_58_176 rfl rfl ?_
        by_cases c16 : 0 ≤ x4.toInt
        · refine xi_ift (pc' := 185) kc_58_178 rfl (xc_ge_t (X := x4.toInt) (Y := 0) rfl (by decide) (by omega)) ?_
          refine xi_iload (pc' := 187) (x := x4) kc_58_185 rfl rfl ?_
          refine xcps4 (xk_arr K.1 xD_155) (fun y17 A17 hy17 ry17 => ?_)
          refine xcps4 (xj_set (v := x4) hy17 ry17 x3 (by first | omega | decide) (by first | omega | decide)) (fun y18 s18 hy18 ry18 => ?_)
          refine xi_iastore (pc' := 188) (x' := y18) kc_58_187 rfl A17 rfl (xi_in (by omega) (by rw [hy17]; omega)) s18 (fun hh18 eh18 => ?_)
          have K19 := xk_pa K (xk_wa rfl) xD_155 hy18 ry18 eh18
          refine xcps2 (α := Int32) (x3 + (-1)) (fun v20 ev20 => ?_)
          have zv20 : v20.toInt = (x3.toInt + (-1)) := by rw [← ev20]; exact (xz_add (X := x3.toInt) (Y := (-1)) rfl (by decide) (by omega) (by omega)).trans (by omega)
          refine xi_iinc (pc' := 191) (x := x3) (v := v20) (lv' := [(3, .int v20), (0, .ref 115), (2, .int x2), (4, .int x4), (5, .int 2187), (6, .int 7)]) kc_58_188 rfl rfl ev20 rfl (xm_lt ml_58 rfl) ?_
          refine xi_goto (pc' := 48) kc_58_191 rfl ?_
          refine xw_lv (b := [(0, .ref 115), (2, .int x2), (3, .int v20)]) (lvS_cons (lvS_cons (lvS_cons (lvS_nil (show ([3, 0, 2, 4, 5, 6] : List Nat).Nodup by decide)) rfl) rfl) rfl) ?_
          exact i9 x2 v20 hh18 (by omega) (by omega) K19 (by omega)
        · refine xi_iff (pc' := 181) kc_58_178 rfl (xc_ge_f (X := x4.toInt) (Y := 0) rfl (by decide) (by omega)) ?_
          refine xi_iconst (pc' := 182) (v := 0) kc_58_181 rfl rfl ?_
          refine xi_goto (pc' := 187) kc_58_182 rfl ?_
          refine xcps4 (xk_arr K.1 xD_155) (fun y21 A21 hy21 ry21 => ?_)
          refine xcps4 (xj_set (v := 0) hy21 ry21 x3 (by first | omega | decide) (by first | omega | decide)) (fun y22 s22 hy22 ry22 => ?_)
          refine xi_iastore (pc' := 188) (x' := y22) kc_58_187 rfl A21 rfl (xi_in (by omega) (by rw [hy21]; omega)) s22 (fun hh22 eh22 => ?_)
          have K23 := xk_pa K (xk_wa rfl) xD_155 hy22 ry22 eh22
          refine xcps2 (α := Int32) (x3 + (-1)) (fun v24 ev24 => ?_)
          have zv24 : v24.toInt = (x3.toInt + (-1)) := by rw [← ev24]; exact (xz_add (X := x3.toInt) (Y := (-1)) rfl (by decide) (by omega) (by omega)).trans (by omega)
          refine xi_iinc (pc' := 191) (x := x3) (v := v24) (lv' := [(3, .int v24), (0, .ref 115), (2, .int x2), (4, .int x4), (5, .int 2187), (6, .int 7)]) kc_58_188 rfl rfl ev24 rfl (xm_lt ml_58 rfl) ?_
          refine xi_goto (pc' := 48) kc_58_191 rfl ?_
          refine xw_lv (b := [(0, .ref 115), (2, .int x2), (3, .int v24)]) (lvS_cons (lvS_cons (lvS_cons (lvS_nil (show ([3, 0, 2, 4, 5, 6] : List Nat).Nodup by decide)) rfl) rfl) rfl) ?_
          exact i9 x2 v24 hh22 (by omega) (by omega) K23 (by omega)
      · refine xi_cmf (pc' := 71) kc_58_68 rfl (xc_ge_f (X := 7) (Y := u10.toInt) (by decide) rfl (by omega)) ?_
        refine xi_iload_n (pc' := 72) (x := x3) kc_58_71 rfl rfl ?_
        refine xi_iload (pc' := 74) (x := 2187) kc_58_72 rfl rfl ?_
        refine xcps2 (α := Int32) (x3 / 2187) (fun v25 ev25 => ?_)
        have dv25 : v25.toInt = x3.toInt / 2187 := by rw [← ev25]; exact xz_dive (X := x3.toInt) (Y := 2187) rfl (by decide) (by omega) (by decide)
        have bv25 : 0 ≤ v25.toInt ∧ v25.toInt ≤ 2 := by omega
        refine xi_idiv (pc' := 75) (v := v25) kc_58_74 rfl ev25 (by decide) ?_
        refine xi_iconst (pc' := 76) (v := 3) kc_58_75 rfl rfl ?_
        refine xcps2 (α := Int32) (v25 - v25 / 3 * 3) (fun v26 ev26 => ?_)
        have dv26 : v26.toInt = v25.toInt % 3 := by rw [← ev26]; exact xz_reme (X := v25.toInt) (Y := 3) rfl (by decide) (by omega) (by decide)
        have bv26 : 0 ≤ v26.toInt ∧ v26.toInt ≤ 2 := by omega
        refine xi_irem (pc' := 77) (v := v26) kc_58_76 rfl ev26 (by decide) ?_
        by_cases c27 : v26.toInt = 0
        · refine xi_iff (pc' := 80) kc_58_77 rfl (xc_ne_f (X := v26.toInt) (Y := 0) rfl (by decide) (by omega)) ?_
          refine xi_aload_n (pc' := 81) (x := 115) kc_58_80 rfl rfl ?_
          refine xi_iload_n (pc' := 82) (x := x3) kc_58_81 rfl rfl ?_
          refine xi_iload (pc' := 84) (x := 7) kc_58_82 rfl rfl ?_
          refine xi_virtual (mj := 59) (as := [.int x3, .int 7]) (st1 := []) (lv0 := [(0, .ref 115), (1, .int x3), (2, .int 7)]) kc_58_84 rfl rfl rfl rfl rfl A14 (Nat.le_of_ble_eq_true rfl) (hJ _ _ _ _ (by decide)) (xm_le ml_59 rfl) rfl ?_
          have zc7 : (7 : Int32).toInt = 7 := by decide
          refine mt_59_0 hJ hov1 hov2 (d := d + 3) (x1 := x3) (x2 := 7) K.1 (by first | omega | decide) (by first | omega | decide) (fun r28 hh29 br28 K30 => ?_)
          have K31 := xk_tr K K30 rfl
          refine xp_115 K31.1 (fun u32 u33 u34 u35 u36 u37 u38 u39 u40 u41 u42 u43 u44 bu32 bu33 bu34 bu35 bu36 bu37 bu38 bu39 bu40 bu41 bu42 bu43 bu44 A45 => ?_)
          have e46 : u2 = u33 := xk_eqi (q := 1) K30 rfl A14 A45 rfl rfl
          subst e46
          have e47 : u5 = u36 := xk_eqi (q := 23) K30 rfl A14 A45 rfl rfl
          subst e47
          show xw J ov (d + 7) 58 (87, [(0, .ref 115), (2, .int x2), (3, .int x3), (4, .int x4), (5, .int 2187), (6, .int 7)], [.int r28], hh29) _
          by_cases c48 : r28.toInt = 0
          · refine xi_ift (pc' := 159) kc_58_87 rfl (xc_eq_t (X := r28.toInt) (Y := 0) rfl (by decide) (by omega)) ?_
            refine xi_iload (pc' := 161) (x := 2187) kc_58_159 rfl rfl ?_
            refine xi_iconst (pc' := 162) (v := 3) kc_58_161 rfl rfl ?_
            refine xi_imul (pc' := 163) (v := 6561) kc_58_162 rfl rfl ?_
            refine xi_istore (pc' := 165) (lv' := [(5, .int 6561), (0, .ref 115), (2, .int x2), (3, .int x3), (4, .int x4), (6, .int 7)]) kc_58_163 rfl rfl (xm_lt ml_58 rfl) ?_
            refine xi_iinc (pc' := 168) (x := 7) (v := 8) (lv' := [(6, .int 8), (5, .int 6561), (0, .ref 115), (2, .int x2), (3, .int x3), (4, .int x4)]) kc_58_165 rfl rfl rfl rfl (xm_lt ml_58 rfl) ?_
            refine xi_goto (pc' := 62) kc_58_168 rfl ?_
            have zc8 : (8 : Int32).toInt = 8 := by decide
            have zc6561 : (6561 : Int32).toInt = 6561 := by decide
            refine xw_lv (b := [(0, .ref 115), (2, .int x2), (3, .int x3), (4, .int x4), (5, .int 6561), (6, .int 8)]) (lvS_cons (lvS_cons (lvS_cons (lvS_cons (lvS_cons (lvS_cons (lvS_nil (show ([6, 5, 0, 2, 3, 4] : List Nat).Nodup by decide)) rfl) rfl) rfl) rfl) rfl) rfl) ?_
            exact i18 x2 x3 x4 hh29 (by omega) (by omega) K31 (by omega)
          · refine xi_iff (pc' := 90) kc_58_87 rfl (xc_eq_f (X := r28.toInt) (Y := 0) rfl (by decide) (by omega)) ?_
            refine xi_aload_n (pc' := 91) (x := 115) kc_58_90 rfl rfl ?_
            refine xi_getfield (pc' := 94) (v := .ref 155) kc_58_91 rfl rfl rfl A45 rfl ?_
            refine xi_iload_n (pc' := 95) (x := x3) kc_58_94 rfl rfl ?_
            refine xi_iload (pc' := 97) (x := 2187) kc_58_95 rfl rfl ?_
            refine xcps2 (α := Int32) (x3 + 2187) (fun v49 ev49 => ?_)
            have zv49 : v49.toInt = (x3.toInt + 2187) := by rw [← ev49]; exact (xz_add (X := x3.toInt) (Y := 2187) rfl (by decide) (by omega) (by omega)).trans (by omega)
            refine xi_iadd (pc' := 98) (v := v49) kc_58_97 rfl ev49 ?_
            have t50 : (-2187) ≤ x3.toInt ∧ x3.toInt ≤ 4373 := by omega
            refine xcps4 (xk_arr K31.1 xD_155) (fun y51 A51 hy51 ry51 => ?_)
            refine xcps4 (xj_get hy51 ry51 (i := v49) (by rw [zv49]; omega) (by rw [zv49]; omega)) (fun v52 ev52 bv52 dv52 => ?_)
            refine xi_iaload (pc' := 99) (v := v52) kc_58_98 rfl A51 (by decide) rfl (xi_in (by rw [zv49]; omega) (by rw [hy51]; rw [zv49]; omega)) ev52 ?_
            refine xi_istore (pc' := 101) (lv' := [(7, .int v52), (0, .ref 115), (2, .int x2), (3, .int x3), (4, .int x4), (5, .int 2187), (6, .int 7)]) kc_58_99 rfl rfl (xm_lt ml_58 rfl) ?_
            refine xi_aload_n (pc' := 102) (x := 115) kc_58_101 rfl rfl ?_
            refine xi_getfield (pc' := 105) (v := .ref 155) kc_58_102 rfl rfl rfl A45 rfl ?_
            refine xi_iload_n (pc' := 106) (x := x3) kc_58_105 rfl rfl ?_
            refine xi_iconst (pc' := 107) (v := 2) kc_58_106 rfl rfl ?_
            refine xi_iload (pc' := 109) (x := 2187) kc_58_107 rfl rfl ?_
            refine xi_imul (pc' := 110) (v := 4374) kc_58_109 rfl rfl ?_
            refine xcps2 (α := Int32) (x3 + 4374) (fun v53 ev53 => ?_)
            have zv53 : v53.toInt = (x3.toInt + 4374) := by rw [← ev53]; exact (xz_add (X := x3.toInt) (Y := 4374) rfl (by decide) (by omega) (by omega)).trans (by omega)
            refine xi_iadd (pc' := 111) (v := v53) kc_58_110 rfl ev53 ?_
            have t54 : (-4374) ≤ x3.toInt ∧ x3.toInt ≤ 2186 := by omega
            refine xcps4 (xj_get hy51 ry51 (i := v53) (by rw [zv53]; omega) (by rw [zv53]; omega)) (fun v55 ev55 bv55 dv55 => ?_)
            refine xi_iaload (pc' := 112) (v := v55) kc_58_111 rfl A51 (by decide) rfl (xi_in (by rw [zv53]; omega) (by rw [hy51]; rw [zv53]; omega)) ev55 ?_
            refine xi_istore (pc' := 114) (lv' := [(8, .int v55), (7, .int v52), (0, .ref 115), (2, .int x2), (3, .int x3), (4, .int x4), (5, .int 2187), (6, .int 7)]) kc_58_112 rfl rfl (xm_lt ml_58 rfl) ?_
            refine xi_aload_n (pc' := 115) (x := 115) kc_58_114 rfl rfl ?_
            refine xi_getfield (pc' := 118) (v := .ref 153) kc_58_115 rfl rfl rfl A45 rfl ?_
            refine xi_iload (pc' := 120) (x := 7) kc_58_118 rfl rfl ?_
            refine xcps4 (xk_arr K31.1 xD_153) (fun y56 A56 hy56 ry56 => ?_)
            refine xcps4 (xj_get hy56 ry56 (i := 7) (by decide) (by decide)) (fun v57 ev57 bv57 dv57 => ?_)
            refine xi_iaload (pc' := 121) (v := v57) kc_58_120 rfl A56 (by decide) rfl (xi_in (by decide) (by rw [hy56]; decide)) ev57 ?_
            refine xi_iload (pc' := 123) (x := v52) kc_58_121 rfl rfl ?_
            refine xi_iload (pc' := 125) (x := v55) kc_58_123 rfl rfl ?_
            by_cases c58 : v52.toInt ≤ v55.toInt
            · refine xi_cmt (pc' := 133) kc_58_125 rfl (xc_le_t (X := v52.toInt) (Y := v55.toInt) rfl rfl (by omega)) ?_
              refine xi_iload (pc' := 135) (x := v55) kc_58_133 rfl rfl ?_
              refine xcps2 (α := Int32) ((v57 : Int32) + v55) (fun v59 ev59 => ?_)
              have rv59 := xc_rng v59
              refine xi_iadd (pc' := 136) (v := v59) kc_58_135 rfl ev59 ?_
              refine xi_istore (pc' := 138) (lv' := [(9, .int v59), (8, .int v55), (7, .int v52), (0, .ref 115), (2, .int x2), (3, .int x3), (4, .int x4), (5, .int 2187), (6, .int 7)]) kc_58_136 rfl rfl (xm_lt ml_58 rfl) ?_
              refine xi_iload (pc' := 140) (x := x4) kc_58_138 rfl rfl ?_
              by_cases c60 : x4.toInt < 0
              · refine xi_ift (pc' := 150) kc_58_140 rfl (xc_lt_t (X := x4.toInt) (Y := 0) rfl (by decide) (by omega)) ?_
                refine xi_iload (pc' := 152) (x := v59) kc_58_150 rfl rfl ?_
                refine xi_goto (pc' := 157) kc_58_152 rfl ?_
                refine xi_istore (pc' := 159) (lv' := [(4, .int v59), (9, .int v59), (8, .int v55), (7, .int v52), (0, .ref 115), (2, .int x2), (3, .int x3), (5, .int 2187), (6, .int 7)]) kc_58_157 rfl rfl (xm_lt ml_58 rfl) ?_
                refine xi_iload (pc' := 161) (x := 2187) kc_58_159 rfl rfl ?_
                refine xi_iconst (pc' := 162) (v := 3) kc_58_161 rfl rfl ?_
                refine xi_imul (pc' := 163) (v := 6561) kc_58_162 rfl rfl ?_
                refine xi_istore (pc' := 165) (lv' := [(5, .int 6561), (4, .int v59), (9, .int v59), (8, .int v55), (7, .int v52), (0, .ref 115), (2, .int x2), (3, .int x3), (6, .int 7)]) kc_58_163 rfl rfl (xm_lt ml_58 rfl) ?_
                refine xi_iinc (pc' := 168) (x := 7) (v := 8) (lv' := [(6, .int 8), (5, .int 6561), (4, .int v59), (9, .int v59), (8, .int v55), (7, .int v52), (0, .ref 115), (2, .int x2), (3, .int x3)]) kc_58_165 rfl rfl rfl rfl (xm_lt ml_58 rfl) ?_
                refine xi_goto (pc' := 62) kc_58_168 rfl ?_
                have zc8 : (8 : Int32).toInt = 8 := by decide
                have zc6561 : (6561 : Int32).toInt = 6561 := by decide
                refine xw_lv (b := [(0, .ref 115), (2, .int x2), (3, .int x3), (4, .int v59), (5, .int 6561), (6, .int 8)]) (lvS_cons (lvS_cons (lvS_cons (lvS_cons (lvS_cons (lvS_cons (lvS_nil (show ([6, 5, 4, 9, 8, 7, 0, 2, 3] : List Nat).Nodup by decide)) rfl) rfl) rfl) rfl) rfl) rfl) ?_
                exact i18 x2 x3 v59 hh29 (by omega) (by omega) K31 (by omega)
              · refine xi_iff (pc' := 143) kc_58_140 rfl (xc_lt_f (X := x4.toInt) (Y := 0) rfl (by decide) (by omega)) ?_
                refine xi_iload (pc' := 145) (x := v59) kc_58_143 rfl rfl ?_
                refine xi_iload (pc' := 147) (x := x4) kc_58_145 rfl rfl ?_
                by_cases c61 : x4.toInt ≤ v59.toInt
                · refine xi_cmt (pc' := 155) kc_58_147 rfl (xc_ge_t (X := v59.toInt) (Y := x4.toInt) rfl rfl (by omega)) ?_
                  refine xi_iload (pc' := 157) (x := x4) kc_58_155 rfl rfl ?_
                  refine xi_istore (pc' := 159) (lv' := [(4, .int x4), (9, .int v59), (8, .int v55), (7, .int v52), (0, .ref 115), (2, .int x2), (3, .int x3), (5, .int 2187), (6, .int 7)]) kc_58_157 rfl rfl (xm_lt ml_58 rfl) ?_
                  refine xi_iload (pc' := 161) (x := 2187) kc_58_159 rfl rfl ?_
                  refine xi_iconst (pc' := 162) (v := 3) kc_58_161 rfl rfl ?_
                  refine xi_imul (pc' := 163) (v := 6561) kc_58_162 rfl rfl ?_
                  refine xi_istore (pc' := 165) (lv' := [(5, .int 6561), (4, .int x4), (9, .int v59), (8, .int v55), (7, .int v52), (0, .ref 115), (2, .int x2), (3, .int x3), (6, .int 7)]) kc_58_163 rfl rfl (xm_lt ml_58 rfl) ?_
                  refine xi_iinc (pc' := 168) (x := 7) (v := 8) (lv' := [(6, .int 8), (5, .int 6561), (4, .int x4), (9, .int v59), (8, .int v55), (7, .int v52), (0, .ref 115), (2, .int x2), (3, .int x3)]) kc_58_165 rfl rfl rfl rfl (xm_lt ml_58 rfl) ?_
                  refine xi_goto (pc' := 62) kc_58_168 rfl ?_
                  have zc8 : (8 : Int32).toInt = 8 := by decide
                  have zc6561 : (6561 : Int32).toInt = 6561 := by decide
                  refine xw_lv (b := [(0, .ref 115), (2, .int x2), (3, .int x3), (4, .int x4), (5, .int 6561), (6, .int 8)]) (lvS_cons (lvS_cons (lvS_cons (lvS_cons (lvS_cons (lvS_cons (lvS_nil (show ([6, 5, 4, 9, 8, 7, 0, 2, 3] : List Nat).Nodup by decide)) rfl) rfl) rfl) rfl) rfl) rfl) ?_
                  exact i18 x2 x3 x4 hh29 (by omega) (by omega) K31 (by omega)
                · refine xi_cmf (pc' := 150) kc_58_147 rfl (xc_ge_f (X := v59.toInt) (Y := x4.toInt) rfl rfl (by omega)) ?_
                  refine xi_iload (pc' := 152) (x := v59) kc_58_150 rfl rfl ?_
                  refine xi_goto (pc' := 157) kc_58_152 rfl ?_
                  refine xi_istore (pc' := 159) (lv' := [(4, .int v59), (9, .int v59), (8, .int v55), (7, .int v52), (0, .ref 115), (2, .int x2), (3, .int x3), (5, .int 2187), (6, .int 7)]) kc_58_157 rfl rfl (xm_lt ml_58 rfl) ?_
                  refine xi_iload (pc' := 161) (x := 2187) kc_58_159 rfl rfl ?_
                  refine xi_iconst (pc' := 162) (v := 3) kc_58_161 rfl rfl ?_
                  refine xi_imul (pc' := 163) (v := 6561) kc_58_162 rfl rfl ?_
                  refine xi_istore (pc' := 165) (lv' := [(5, .int 6561), (4, .int v59), (9, .int v59), (8, .int v55), (7, .int v52), (0, .ref 115), (2, .int x2), (3, .int x3), (6, .int 7)]) kc_58_163 rfl rfl (xm_lt ml_58 rfl) ?_
                  refine xi_iinc (pc' := 168) (x := 7) (v := 8) (lv' := [(6, .int 8), (5, .int 6561), (4, .int v59), (9, .int v59), (8, .int v55), (7, .int v52), (0, .ref 115), (2, .int x2), (3, .int x3)]) kc_58_165 rfl rfl rfl rfl (xm_lt ml_58 rfl) ?_
                  refine xi_goto (pc' := 62) kc_58_168 rfl ?_
                  have zc8 : (8 : Int32).toInt = 8 := by decide
                  have zc6561 : (6561 : Int32).toInt = 6561 := by decide
                  refine xw_lv (b := [(0, .ref 115), (2, .int x2), (3, .int x3), (4, .int v59), (5, .int 6561), (6, .int 8)]) (lvS_cons (lvS_cons (lvS_cons (lvS_cons (lvS_cons (lvS_cons (lvS_nil (show ([6, 5, 4, 9, 8, 7, 0, 2, 3] : List Nat).Nodup by decide)) rfl) rfl) rfl) rfl) rfl) rfl) ?_
                  exact i18 x2 x3 v59 hh29 (by omega) (by omega) K31 (by omega)
            · refine xi_cmf (pc' := 128) kc_58_125 rfl (xc_le_f (X := v52.toInt) (Y := v55.toInt) rfl rfl (by omega)) ?_
              refine xi_iload (pc' := 130) (x := v52) kc_58_128 rfl rfl ?_
              refine xi_goto (pc' := 135) kc_58_130 rfl ?_
              refine xcps2 (α := Int32) ((v57 : Int32) + v52) (fun v62 ev62 => ?_)
              have rv62 := xc_rng v62
              refine xi_iadd (pc' := 136) (v := v62) kc_58_135 rfl ev62 ?_
              refine xi_istore (pc' := 138) (lv' := [(9, .int v62), (8, .int v55), (7, .int v52), (0, .ref 115), (2, .int x2), (3, .int x3), (4, .int x4), (5, .int 2187), (6, .int 7)]) kc_58_136 rfl rfl (xm_lt ml_58 rfl) ?_
              refine xi_iload (pc' := 140) (x := x4) kc_58_138 rfl rfl ?_
              by_cases c63 : x4.toInt < 0
              · refine xi_ift (pc' := 150) kc_58_140 rfl (xc_lt_t (X := x4.toInt) (Y := 0) rfl (by decide) (by omega)) ?_
                refine xi_iload (pc' := 152) (x := v62) kc_58_150 rfl rfl ?_
                refine xi_goto (pc' := 157) kc_58_152 rfl ?_
                refine xi_istore (pc' := 159) (lv' := [(4, .int v62), (9, .int v62), (8, .int v55), (7, .int v52), (0, .ref 115), (2, .int x2), (3, .int x3), (5, .int 2187), (6, .int 7)]) kc_58_157 rfl rfl (xm_lt ml_58 rfl) ?_
                refine xi_iload (pc' := 161) (x := 2187) kc_58_159 rfl rfl ?_
                refine xi_iconst (pc' := 162) (v := 3) kc_58_161 rfl rfl ?_
                refine xi_imul (pc' := 163) (v := 6561) kc_58_162 rfl rfl ?_
                refine xi_istore (pc' := 165) (lv' := [(5, .int 6561), (4, .int v62), (9, .int v62), (8, .int v55), (7, .int v52), (0, .ref 115), (2, .int x2), (3, .int x3), (6, .int 7)]) kc_58_163 rfl rfl (xm_lt ml_58 rfl) ?_
                refine xi_iinc (pc' := 168) (x := 7) (v := 8) (lv' := [(6, .int 8), (5, .int 6561), (4, .int v62), (9, .int v62), (8, .int v55), (7, .int v52), (0, .ref 115), (2, .int x2), (3, .int x3)]) kc_58_165 rfl rfl rfl rfl (xm_lt ml_58 rfl) ?_
                refine xi_goto (pc' := 62) kc_58_168 rfl ?_
                have zc8 : (8 : Int32).toInt = 8 := by decide
                have zc6561 : (6561 : Int32).toInt = 6561 := by decide
                refine xw_lv (b := [(0, .ref 115), (2, .int x2), (3, .int x3), (4, .int v62), (5, .int 6561), (6, .int 8)]) (lvS_cons (lvS_cons (lvS_cons (lvS_cons (lvS_cons (lvS_cons (lvS_nil (show ([6, 5, 4, 9, 8, 7, 0, 2, 3] : List Nat).Nodup by decide)) rfl) rfl) rfl) rfl) rfl) rfl) ?_
                exact i18 x2 x3 v62 hh29 (by omega) (by omega) K31 (by omega)
              · refine xi_iff (pc' := 143) kc_58_140 rfl (xc_lt_f (X := x4.toInt) (Y := 0) rfl (by decide) (by omega)) ?_
                refine xi_iload (pc' := 145) (x := v62) kc_58_143 rfl rfl ?_
                refine xi_iload (pc' := 147) (x := x4) kc_58_145 rfl rfl ?_
                by_cases c64 : x4.toInt ≤ v62.toInt
                · refine xi_cmt (pc' := 155) kc_58_147 rfl (xc_ge_t (X := v62.toInt) (Y := x4.toInt) rfl rfl (by omega)) ?_
                  refine xi_iload (pc' := 157) (x := x4) kc_58_155 rfl rfl ?_
                  refine xi_istore (pc' := 159) (lv' := [(4, .int x4), (9, .int v62), (8, .int v55), (7, .int v52), (0, .ref 115), (2, .int x2), (3, .int x3), (5, .int 2187), (6, .int 7)]) kc_58_157 rfl rfl (xm_lt ml_58 rfl) ?_
                  refine xi_iload (pc' := 161) (x := 2187) kc_58_159 rfl rfl ?_
                  refine xi_iconst (pc' := 162) (v := 3) kc_58_161 rfl rfl ?_
                  refine xi_imul (pc' := 163) (v := 6561) kc_58_162 rfl rfl ?_
                  refine xi_istore (pc' := 165) (lv' := [(5, .int 6561), (4, .int x4), (9, .int v62), (8, .int v55), (7, .int v52), (0, .ref 115), (2, .int x2), (3, .int x3), (6, .int 7)]) kc_58_163 rfl rfl (xm_lt ml_58 rfl) ?_
                  refine xi_iinc (pc' := 168) (x := 7) (v := 8) (lv' := [(6, .int 8), (5, .int 6561), (4, .int x4), (9, .int v62), (8, .int v55), (7, .int v52), (0, .ref 115), (2, .int x2), (3, .int x3)]) kc_58_165 rfl rfl rfl rfl (xm_lt ml_58 rfl) ?_
                  refine xi_goto (pc' := 62) kc_58_168 rfl ?_
                  have zc8 : (8 : Int32).toInt = 8 := by decide
                  have zc6561 : (6561 : Int32).toInt = 6561 := by decide
                  refine xw_lv (b := [(0, .ref 115), (2, .int x2), (3, .int x3), (4, .int x4), (5, .int 6561), (6, .int 8)]) (lvS_cons (lvS_cons (lvS_cons (lvS_cons (lvS_cons (lvS_cons (lvS_nil (show ([6, 5, 4, 9, 8, 7, 0, 2, 3] : List Nat).Nodup by decide)) rfl) rfl) rfl) rfl) rfl) rfl) ?_
                  exact i18 x2 x3 x4 hh29 (by omega) (by omega) K31 (by omega)
                · refine xi_cmf (pc' := 150) kc_58_147 rfl (xc_ge_f (X := v62.toInt) (Y := x4.toInt) rfl rfl (by omega)) ?_
                  refine xi_iload (pc' := 152) (x := v62) kc_58_150 rfl rfl ?_
                  refine xi_goto (pc' := 157) kc_58_152 rfl ?_
                  refine xi_istore (pc' := 159) (lv' := [(4, .int v62), (9, .int v62), (8, .int v55), (7, .int v52), (0, .ref 115), (2, .int x2), (3, .int x3), (5, .int 2187), (6, .int 7)]) kc_58_157 rfl rfl (xm_lt ml_58 rfl) ?_
                  refine xi_iload (pc' := 161) (x := 2187) kc_58_159 rfl rfl ?_
                  refine xi_iconst (pc' := 162) (v := 3) kc_58_161 rfl rfl ?_
                  refine xi_imul (pc' := 163) (v := 6561) kc_58_162 rfl rfl ?_
                  refine xi_istore (pc' := 165) (lv' := [(5, .int 6561), (4, .int v62), (9, .int v62), (8, .int v55), (7, .int v52), (0, .ref 115), (2, .int x2), (3, .int x3), (6, .int 7)]) kc_58_163 rfl rfl (xm_lt ml_58 rfl) ?_
                  refine xi_iinc (pc' := 168) (x := 7) (v := 8) (lv' := [(6, .int 8), (5, .int 6561), (4, .int v62), (9, .int v62), (8, .int v55), (7, .int v52), (0, .ref 115), (2, .int x2), (3, .int x3)]) kc_58_165 rfl rfl rfl rfl (xm_lt ml_58 rfl) ?_
                  refine xi_goto (pc' := 62) kc_58_168 rfl ?_
                  have zc8 : (8 : Int32).toInt = 8 := by decide
                  have zc6561 : (6561 : Int32).toInt = 6561 := by decide
                  refine xw_lv (b := [(0, .ref 115), (2, .int x2), (3, .int x3), (4, .int v62), (5, .int 6561), (6, .int 8)]) (lvS_cons (lvS_cons (lvS_cons (lvS_cons (lvS_cons (lvS_cons (lvS_nil (show ([6, 5, 4, 9, 8, 7, 0, 2, 3] : List Nat).Nodup by decide)) rfl) rfl) rfl) rfl) rfl) rfl) ?_
                  exact i18 x2 x3 v62 hh29 (by omega) (by omega) K31 (by omega)
        · refine xi_ift (pc' := 159) kc_58_77 rfl (xc_ne_t (X := v26.toInt) (Y := 0) rfl (by decide) (by omega)) ?_
          refine xi_iload (pc' := 161) (x := 2187) kc_58_159 rfl rfl ?_
          refine xi_iconst (pc' := 162) (v := 3) kc_58_161 rfl rfl ?_
          refine xi_imul (pc' := 163) (v := 6561) kc_58_162 rfl rfl ?_
          refine xi_istore (pc' := 165) (lv' := [(5, .int 6561), (0, .ref 115), (2, .int x2), (3, .int x3), (4, .int x4), (6, .int 7)]) kc_58_163 rfl rfl (xm_lt ml_58 rfl) ?_
          refine xi_iinc (pc' := 168) (x := 7) (v := 8) (lv' := [(6, .int 8), (5, .int 6561), (0, .ref 115), (2, .int x2), (3, .int x3), (4, .int x4)]) kc_58_165 rfl rfl rfl rfl (xm_lt ml_58 rfl) ?_
          refine xi_goto (pc' := 62) kc_58_168 rfl ?_
          have zc8 : (8 : Int32).toInt = 8 := by decide
          have zc6561 : (6561 : Int32).toInt = 6561 := by decide
          refine xw_lv (b := [(0, .ref 115), (2, .int x2), (3, .int x3), (4, .int x4), (5, .int 6561), (6, .int 8)]) (lvS_cons (lvS_cons (lvS_cons (lvS_cons (lvS_cons (lvS_cons (lvS_nil (show ([6, 5, 0, 2, 3, 4] : List Nat).Nodup by decide)) rfl) rfl) rfl) rfl) rfl) rfl) ?_
          exact i18 x2 x3 x4 h (by omega) (by omega) K (by omega)
    · intro x2 x3 x4 h b2 b3 K hm
      have rx4 := xc_rng x4
      refine xi_iload (pc' := 64) (x := 8) kc_58_62 rfl rfl ?_
      refine xi_aload_n (pc' := 65) (x := 115) kc_58_64 rfl rfl ?_
      refine xp_115 K.1 (fun u1 u2 u3 u4 u5 u6 u7 u8 u9 u10 u11 u12 u13 bu1 bu2 bu3 bu4 bu5 bu6 bu7 bu8 bu9 bu10 bu11 bu12 bu13 A14 => ?_)
      refine xi_getfield (pc' := 68) (v := .int u10) kc_58_65 rfl rfl rfl A14 rfl ?_
      refine xi_cmt (pc' := 171) kc_58_68 rfl (xc_ge_t (X := 8) (Y := u10.toInt) (by decide) rfl (by omega)) ?_
      refine xi_aload_n (pc' := 172) (x := 115) kc_58_171 rfl rfl ?_
      refine xi_getfield (pc' := 175) (v := .ref 155) kc_58_172 rfl rfl rfl A14 rfl ?_
      refine xi_iload_n (pc' := 176) (x := x3) kc_58_175 rfl rfl ?_
      refine xi_iload (pc' := 178) (x := x4) kc_58_176 rfl rfl ?_
      by_cases c15 : 0 ≤ x4.toInt
      · refine xi_ift (pc' := 185) kc_58_178 rfl (xc_ge_t (X := x4.toInt) (Y := 0) rfl (by decide) (by omega)) ?_
        refine xi_iload (pc' := 187) (x := x4) kc_58_185 rfl rfl ?_
        refine xcps4 (xk_arr K.1 xD_155) (fun y16 A16 hy16 ry16 => ?_)
        refine xcps4 (xj_set (v := x4) hy16 ry16 x3 (by first | omega | decide) (by first | omega | decide)) (fun y17 s17 hy17 ry17 => ?_)
        refine xi_iastore (pc' := 188) (x' := y17) kc_58_187 rfl A16 rfl (xi_in (by omega) (by rw [hy16]; omega)) s17 (fun hh17 eh17 => ?_)
        have K18 := xk_pa K (xk_wa rfl) xD_155 hy17 ry17 eh17
        refine xcps2 (α := Int32) (x3 + (-1)) (fun v19 ev19 => ?_)
        have zv19 : v19.toInt = (x3.toInt + (-1)) := by rw [← ev19]; exact (xz_add (X := x3.toInt) (Y := (-1)) rfl (by decide) (by omega) (by omega)).trans (by omega)
        refine xi_iinc (pc' := 191) (x := x3) (v := v19) (lv' := [(3, .int v19), (0, .ref 115), (2, .int x2), (4, .int x4), (5, .int 6561), (6, .int 8)]) kc_58_188 rfl rfl ev19 rfl (xm_lt ml_58 rfl) ?_
        refine xi_goto (pc' := 48) kc_58_191 rfl ?_
        refine xw_lv (b := [(0, .ref 115), (2, .int x2), (3, .int v19)]) (lvS_cons (lvS_cons (lvS_cons (lvS_nil (show ([3, 0, 2, 4, 5, 6] : List Nat).Nodup by decide)) rfl) rfl) rfl) ?_
        exact i9 x2 v19 hh17 (by omega) (by omega) K18 (by omega)
      · refine xi_iff (pc' := 181) kc_58_178 rfl (xc_ge_f (X := x4.toInt) (Y := 0) rfl (by decide) (by omega)) ?_
        refine xi_iconst (pc' := 182) (v := 0) kc_58_181 rfl rfl ?_
        refine xi_goto (pc' := 187) kc_58_182 rfl ?_
        refine xcps4 (xk_arr K.1 xD_155) (fun y20 A20 hy20 ry20 => ?_)
        refine xcps4 (xj_set (v := 0) hy20 ry20 x3 (by first | omega | decide) (by first | omega | decide)) (fun y21 s21 hy21 ry21 => ?_)
        refine xi_iastore (pc' := 188) (x' := y21) kc_58_187 rfl A20 rfl (xi_in (by omega) (by rw [hy20]; omega)) s21 (fun hh21 eh21 => ?_)
        have K22 := xk_pa K (xk_wa rfl) xD_155 hy21 ry21 eh21
        refine xcps2 (α := Int32) (x3 + (-1)) (fun v23 ev23 => ?_)
        have zv23 : v23.toInt = (x3.toInt + (-1)) := by rw [← ev23]; exact (xz_add (X := x3.toInt) (Y := (-1)) rfl (by decide) (by omega) (by omega)).trans (by omega)
        refine xi_iinc (pc' := 191) (x := x3) (v := v23) (lv' := [(3, .int v23), (0, .ref 115), (2, .int x2), (4, .int x4), (5, .int 6561), (6, .int 8)]) kc_58_188 rfl rfl ev23 rfl (xm_lt ml_58 rfl) ?_
        refine xi_goto (pc' := 48) kc_58_191 rfl ?_
        refine xw_lv (b := [(0, .ref 115), (2, .int x2), (3, .int v23)]) (lvS_cons (lvS_cons (lvS_cons (lvS_nil (show ([3, 0, 2, 4, 5, 6] : List Nat).Nodup by decide)) rfl) rfl) rfl) ?_
        exact i9 x2 v23 hh21 (by omega) (by omega) K22 (by omega)
set_option maxHeartbeats 4000000 in
theorem mt_58_0 {J : xe_J} {ov : List (List Int32)} (hJ : ∀ d mj as h, mj ≠ xe_loff → J d mj as h = none) (hov1 : ov[1]? = some [10, 0, 0, 0, 0, 0]) (hov2 : ov[2]? = some [99, 30, 50, 50, 1, 99999]) {d : Nat} {Q : Option Value → xe_H → Prop} {h : xe_H} (T : xt h) (kk : (∀ (r : Int32) (h' : xe_H), xk [(0, 9), (115, 1), (83, 0), (29, 0), (31, 0), (33, 0), (35, 0), (37, 0), (39, 0), (41, 0), (43, 0), (45, 0), (47, 0), (49, 0), (51, 0), (125, 0), (29, 2), (31, 2), (33, 2), (35, 2), (37, 2), (39, 2), (41, 2), (43, 2), (45, 2), (47, 2), (49, 2), (51, 2), (127, 0), (1, 5), (115, 23)] h h' → Q (some (.int r)) h')) : xw J ov (d + 7) 58 (0, [(0, .ref 115)], [], h) Q := by
  have K : xk [(0, 9), (115, 1), (83, 0), (29, 0), (31, 0), (33, 0), (35, 0), (37, 0), (39, 0), (41, 0), (43, 0), (45, 0), (47, 0), (49, 0), (51, 0), (125, 0), (29, 2), (31, 2), (33, 2), (35, 2), (37, 2), (39, 2), (41, 2), (43, 2), (45, 2), (47, 2), (49, 2), (51, 2), (127, 0), (1, 5), (115, 23)] h h := xk_re T
  refine xi_aload_n (pc' := 1) (x := 115) kc_58_0 rfl rfl ?_
  refine xi_iconst (pc' := 2) (v := 0) kc_58_1 rfl rfl ?_
  refine xp_115 K.1 (fun u1 u2 u3 u4 u5 u6 u7 u8 u9 u10 u11 u12 u13 bu1 bu2 bu3 bu4 bu5 bu6 bu7 bu8 bu9 bu10 bu11 bu12 bu13 A14 => ?_)
  refine xi_putfield (pc' := 5) (fs' := [.int 0, .int u2, .ref 116, .ref 117, .ref 118, .ref 119, .ref 120, .ref 121, .ref 122, .ref 123, .ref 124, .ref 125, .ref 126, .ref 127, .ref 128, .ref 129, .int u3, .ref 130, .int u4, .ref 131, .ref 132, .ref 133, .ref 134, .int u5, .ref 135, .ref 136, .ref 137, .ref 138, .ref 139, .ref 140, .ref 141, .ref 142, .int u6, .int u7, .int u8, .ref 143, .ref 144, .ref 145, .ref 146, .ref 147, .ref 148, .int u9, .ref 149, .ref 150, .ref 151, .int u10, .ref 152, .ref 153, .ref 154, .ref 155, .ref 156, .ref 157, .ref 158, .ref 159, .int u11, .ref 160, .int u12, .ref 161, .ref 162, .ref 163, .ref 164, .int u13, .ref 165, .ref 166]) kc_58_2 rfl rfl rfl A14 rfl rfl rfl (Nat.le_of_ble_eq_true rfl) rfl (fun hh16 eh15 => ?_)
  have K17 := xk_pf (k := 0) (v := 0) K (xk_wf rfl) xD_115 A14 rfl (by first | omega | decide) (by first | omega | decide) eh15 rfl
  refine xi_aload_n (pc' := 6) (x := 115) kc_58_5 rfl rfl ?_
  refine xi_virtual (mj := 43) (as := []) (st1 := []) (lv0 := [(0, .ref 115)]) kc_58_6 rfl rfl rfl rfl rfl eh15.1 (Nat.le_of_ble_eq_true rfl) (hJ _ _ _ _ (by decide)) (xm_le ml_43 rfl) rfl ?_
  refine mt_43_0 hJ hov1 hov2 (d := d)  K17.1 (fun hh19 K20 => ?_)
  have K21 := xk_tr K17 K20 rfl
  refine xp_115 K21.1 (fun u22 u23 u24 u25 u26 u27 u28 u29 u30 u31 u32 u33 u34 bu22 bu23 bu24 bu25 bu26 bu27 bu28 bu29 bu30 bu31 bu32 bu33 bu34 A35 => ?_)
  have e36 : u2 = u23 := xk_eqi (q := 1) K20 rfl eh15.1 A35 rfl rfl
  subst e36
  have e37 : u5 = u26 := xk_eqi (q := 23) K20 rfl eh15.1 A35 rfl rfl
  subst e37
  show xw J ov (d + 7) 58 (9, [(0, .ref 115)], [], hh19) _
  refine xi_iconst (pc' := 10) (v := 1) kc_58_9 rfl rfl ?_
  refine xi_istore_n (pc' := 11) (lv' := [(1, .int 1), (0, .ref 115)]) kc_58_10 rfl rfl (xm_lt ml_58 rfl) ?_
  refine xi_iconst (pc' := 12) (v := 0) kc_58_11 rfl rfl ?_
  refine xi_istore_n (pc' := 13) (lv' := [(2, .int 0), (1, .int 1), (0, .ref 115)]) kc_58_12 rfl rfl (xm_lt ml_58 rfl) ?_
  refine xi_iconst (pc' := 14) (v := 0) kc_58_13 rfl rfl ?_
  refine xi_istore_n (pc' := 15) (lv' := [(3, .int 0), (2, .int 0), (1, .int 1), (0, .ref 115)]) kc_58_14 rfl rfl (xm_lt ml_58 rfl) ?_
  have zc0 : (0 : Int32).toInt = 0 := by decide
  have zc1 : (1 : Int32).toInt = 1 := by decide
  refine xw_lv (b := [(0, .ref 115), (1, .int 1), (2, .int 0), (3, .int 0)]) (lvS_cons (lvS_cons (lvS_cons (lvS_cons (lvS_nil (show ([3, 2, 1, 0] : List Nat).Nodup by decide)) rfl) rfl) rfl) rfl) ?_
  exact (lp_58_0 hJ hov1 hov2 (d := d) (hb := hh19) (fun r9 h9 K9 => kk r9 h9 (xk_tr K21 K9 rfl)) 65629).1 0 hh19 (by omega) (xk_re K21.1) (by omega)
set_option maxHeartbeats 4000000 in
theorem lp_61_0 {J : xe_J} {ov : List (List Int32)} (hJ : ∀ d mj as h, mj ≠ xe_loff → J d mj as h = none) (hov1 : ov[1]? = some [10, 0, 0, 0, 0, 0]) (hov2 : ov[2]? = some [99, 30, 50, 50, 1, 99999]) {d : Nat} {Q : Option Value → xe_H → Prop} {hb : xe_H} (kk : (∀ (r : Int32) (h' : xe_H), ((-6) ≤ r.toInt ∧ r.toInt ≤ 19) → xk [(0, 9), (115, 1), (83, 0), (29, 0), (31, 0), (33, 0), (35, 0), (37, 0), (39, 0), (41, 0), (43, 0), (45, 0), (47, 0), (49, 0), (51, 0), (125, 0), (29, 2), (31, 2), (33, 2), (35, 2), (37, 2), (39, 2), (41, 2), (43, 2), (45, 2), (47, 2), (49, 2), (51, 2), (127, 0), (1, 5), (115, 23)] hb h' → Q (some (.int r)) h')) : ∀ m : Nat, (∀ (x1 : Int32) (x2 : Int32) (x3 : Int32) (x4 : Int32) (x5 : Int32) (x6 : Int32) (h : xe_H), (0 ≤ x1.toInt ∧ x1.toInt ≤ 5) → (0 ≤ x2.toInt ∧ x2.toInt ≤ 1) → (0 ≤ x6.toInt ∧ x6.toInt ≤ 20) → xk [(0, 9), (115, 1), (83, 0), (29, 0), (31, 0), (33, 0), (35, 0), (37, 0), (39, 0), (41, 0), (43, 0), (45, 0), (47, 0), (49, 0), (51, 0), (125, 0), (29, 2), (31, 2), (33, 2), (35, 2), (37, 2), (39, 2), (41, 2), (43, 2), (45, 2), (47, 2), (49, 2), (51, 2), (127, 0), (1, 5), (115, 23)] hb h → (-1) * x6.toInt + 20 < (m : Int) → xw J ov (d + 2) 61 (37, [(0, .ref 115), (1, .int x1), (2, .int x2), (3, .int x3), (4, .int x4), (5, .int x5), (6, .int x6)], [], h) Q) := by
  intro m
  induction m with
  | zero =>
    intro x1 x2 x3 x4 x5 x6 h b1 b2 b6 K hm; have rx3 := xc_rng x3; have rx4 := xc_rng x4; have rx5 := xc_rng x5; exfalso; omega
  | succ m ih =>
    have i0 := ih
    intro x1 x2 x3 x4 x5 x6 h b1 b2 b6 K hm
    have rx3 := xc_rng x3
    have rx4 := xc_rng x4
    have rx5 := xc_rng x5
    refine xi_iload (pc' := 39) (x := x6) kc_61_37 rfl rfl ?_
    refine xi_aload_n (pc' := 40) (x := 115) kc_61_39 rfl rfl ?_
    refine xp_115 K.1 (fun u1 u2 u3 u4 u5 u6 u7 u8 u9 u10 u11 u12 u13 bu1 bu2 bu3 bu4 bu5 bu6 bu7 bu8 bu9 bu10 bu11 bu12 bu13 A14 => ?_)
    refine xi_getfield (pc' := 43) (v := .int u8) kc_61_40 rfl rfl rfl A14 rfl ?_
    by_cases c15 : u8.toInt ≤ x6.toInt
    · refine xi_cmt (pc' := 94) kc_61_43 rfl (xc_ge_t (X := x6.toInt) (Y := u8.toInt) rfl rfl (by omega)) ?_
      refine xi_iload_n (pc' := 95) (x := x3) kc_61_94 rfl rfl ?_
      by_cases c16 : x3.toInt < 0
      · refine xi_ift (pc' := 114) kc_61_95 rfl (xc_lt_t (X := x3.toInt) (Y := 0) rfl (by decide) (by omega)) ?_
        refine xi_aload_n (pc' := 115) (x := 115) kc_61_114 rfl rfl ?_
        refine xi_bipush (pc' := 117) (v := (-4)) kc_61_115 rfl rfl ?_
        refine xi_virtual (mj := 12) (as := [.int (-4)]) (st1 := []) (lv0 := [(0, .ref 115), (1, .int (-4))]) kc_61_117 rfl rfl rfl rfl rfl A14 (Nat.le_of_ble_eq_true rfl) (hJ _ _ _ _ (by decide)) (xm_le ml_12 rfl) rfl ?_
        refine xi_aload_n (pc' := 1) (x := 115) kc_12_0 rfl rfl ?_
        refine xi_getfield (pc' := 4) (v := .ref 140) kc_12_1 rfl rfl rfl A14 rfl ?_
        refine xi_iload_n (pc' := 5) (x := (-4)) kc_12_4 rfl rfl ?_
        refine xi_ineg (pc' := 6) (v := 4) kc_12_5 rfl rfl ?_
        refine xi_dup2 (pc' := 7) kc_12_6 rfl ⟨rfl, rfl⟩ ?_
        refine xcps4 (xk_arr K.1 xD_140) (fun y17 A17 hy17 ry17 => ?_)
        refine xcps4 (xj_get hy17 ry17 (i := 4) (by decide) (by decide)) (fun v18 ev18 bv18 dv18 => ?_)
        refine xi_iaload (pc' := 8) (v := v18) kc_12_7 rfl A17 (by decide) rfl (xi_in (by decide) (by rw [hy17]; decide)) ev18 ?_
        refine xi_iconst (pc' := 9) (v := 1) kc_12_8 rfl rfl ?_
        refine xcps2 (α := Int32) ((v18 : Int32) + 1) (fun v19 ev19 => ?_)
        have rv19 := xc_rng v19
        refine xi_iadd (pc' := 10) (v := v19) kc_12_9 rfl ev19 ?_
        refine xcps4 (xj_set (v := v19) hy17 ry17 4 (by first | omega | decide) (by first | omega | decide)) (fun y20 s20 hy20 ry20 => ?_)
        refine xi_iastore (pc' := 11) (x' := y20) kc_12_10 rfl A17 rfl (xi_in (by decide) (by rw [hy17]; decide)) s20 (fun hh20 eh20 => ?_)
        have K21 := xk_pa K (xk_wa rfl) xD_140 hy20 ry20 eh20
        refine xi_iload_n (pc' := 12) (x := (-4)) kc_12_11 rfl rfl ?_
        refine xi_ireturn kc_12_12 mr_12 rfl ?_
        show xw J ov (d + 2) 61 (120, [(0, .ref 115), (1, .int x1), (2, .int x2), (3, .int x3), (4, .int x4), (5, .int x5), (6, .int x6)], [.int (-4)], hh20) _
        refine xi_ireturn kc_61_120 mr_61 rfl ?_
        have zcm4 : ((-4) : Int32).toInt = (-4) := by decide
        exact kk (-4) hh20 (by omega) K21
      · refine xi_iff (pc' := 98) kc_61_95 rfl (xc_lt_f (X := x3.toInt) (Y := 0) rfl (by decide) (by omega)) ?_
        refine xi_iload (pc' := 100) (x := x4) kc_61_98 rfl rfl ?_
        refine xi_aload_n (pc' := 101) (x := 115) kc_61_100 rfl rfl ?_
        refine xi_getfield (pc' := 104) (v := .int u2) kc_61_101 rfl rfl rfl A14 rfl ?_
        by_cases c22 : x4.toInt < u2.toInt
        · refine xi_cmt (pc' := 114) kc_61_104 rfl (xc_lt_t (X := x4.toInt) (Y := u2.toInt) rfl rfl (by omega)) ?_
          refine xi_aload_n (pc' := 115) (x := 115) kc_61_114 rfl rfl ?_
          refine xi_bipush (pc' := 117) (v := (-4)) kc_61_115 rfl rfl ?_
          refine xi_virtual (mj := 12) (as := [.int (-4)]) (st1 := []) (lv0 := [(0, .ref 115), (1, .int (-4))]) kc_61_117 rfl rfl rfl rfl rfl A14 (Nat.le_of_ble_eq_true rfl) (hJ _ _ _ _ (by decide)) (xm_le ml_12 rfl) rfl ?_
          refine xi_aload_n (pc' := 1) (x := 115) kc_12_0 rfl rfl ?_
          refine xi_getfield (pc' := 4) (v := .ref 140) kc_12_1 rfl rfl rfl A14 rfl ?_
          refine xi_iload_n (pc' := 5) (x := (-4)) kc_12_4 rfl rfl ?_
          refine xi_ineg (pc' := 6) (v := 4) kc_12_5 rfl rfl ?_
          refine xi_dup2 (pc' := 7) kc_12_6 rfl ⟨rfl, rfl⟩ ?_
          refine xcps4 (xk_arr K.1 xD_140) (fun y23 A23 hy23 ry23 => ?_)
          refine xcps4 (xj_get hy23 ry23 (i := 4) (by decide) (by decide)) (fun v24 ev24 bv24 dv24 => ?_)
          refine xi_iaload (pc' := 8) (v := v24) kc_12_7 rfl A23 (by decide) rfl (xi_in (by decide) (by rw [hy23]; decide)) ev24 ?_
          refine xi_iconst (pc' := 9) (v := 1) kc_12_8 rfl rfl ?_
          refine xcps2 (α := Int32) ((v24 : Int32) + 1) (fun v25 ev25 => ?_)
          have rv25 := xc_rng v25
          refine xi_iadd (pc' := 10) (v := v25) kc_12_9 rfl ev25 ?_
          refine xcps4 (xj_set (v := v25) hy23 ry23 4 (by first | omega | decide) (by first | omega | decide)) (fun y26 s26 hy26 ry26 => ?_)
          refine xi_iastore (pc' := 11) (x' := y26) kc_12_10 rfl A23 rfl (xi_in (by decide) (by rw [hy23]; decide)) s26 (fun hh26 eh26 => ?_)
          have K27 := xk_pa K (xk_wa rfl) xD_140 hy26 ry26 eh26
          refine xi_iload_n (pc' := 12) (x := (-4)) kc_12_11 rfl rfl ?_
          refine xi_ireturn kc_12_12 mr_12 rfl ?_
          show xw J ov (d + 2) 61 (120, [(0, .ref 115), (1, .int x1), (2, .int x2), (3, .int x3), (4, .int x4), (5, .int x5), (6, .int x6)], [.int (-4)], hh26) _
          refine xi_ireturn kc_61_120 mr_61 rfl ?_
          have zcm4 : ((-4) : Int32).toInt = (-4) := by decide
          exact kk (-4) hh26 (by omega) K27
        · refine xi_cmf (pc' := 107) kc_61_104 rfl (xc_lt_f (X := x4.toInt) (Y := u2.toInt) rfl rfl (by omega)) ?_
          refine xi_iload (pc' := 109) (x := x5) kc_61_107 rfl rfl ?_
          refine xi_iload (pc' := 111) (x := x4) kc_61_109 rfl rfl ?_
          by_cases c28 : x4.toInt < x5.toInt
          · refine xi_cmt (pc' := 121) kc_61_111 rfl (xc_gt_t (X := x5.toInt) (Y := x4.toInt) rfl rfl (by omega)) ?_
            refine xi_iload (pc' := 123) (x := x5) kc_61_121 rfl rfl ?_
            refine xi_sipush (pc' := 126) (v := 600) kc_61_123 rfl rfl ?_
            by_cases c29 : 600 < x5.toInt
            · refine xi_cmt (pc' := 144) kc_61_126 rfl (xc_gt_t (X := x5.toInt) (Y := 600) rfl (by decide) (by omega)) ?_
              refine xi_aload_n (pc' := 145) (x := 115) kc_61_144 rfl rfl ?_
              refine xi_bipush (pc' := 147) (v := (-6)) kc_61_145 rfl rfl ?_
              refine xi_virtual (mj := 12) (as := [.int (-6)]) (st1 := []) (lv0 := [(0, .ref 115), (1, .int (-6))]) kc_61_147 rfl rfl rfl rfl rfl A14 (Nat.le_of_ble_eq_true rfl) (hJ _ _ _ _ (by decide)) (xm_le ml_12 rfl) rfl ?_
              refine xi_aload_n (pc' := 1) (x := 115) kc_12_0 rfl rfl ?_
              refine xi_getfield (pc' := 4) (v := .ref 140) kc_12_1 rfl rfl rfl A14 rfl ?_
              refine xi_iload_n (pc' := 5) (x := (-6)) kc_12_4 rfl rfl ?_
              refine xi_ineg (pc' := 6) (v := 6) kc_12_5 rfl rfl ?_
              refine xi_dup2 (pc' := 7) kc_12_6 rfl ⟨rfl, rfl⟩ ?_
              refine xcps4 (xk_arr K.1 xD_140) (fun y30 A30 hy30 ry30 => ?_)
              refine xcps4 (xj_get hy30 ry30 (i := 6) (by decide) (by decide)) (fun v31 ev31 bv31 dv31 => ?_)
              refine xi_iaload (pc' := 8) (v := v31) kc_12_7 rfl A30 (by decide) rfl (xi_in (by decide) (by rw [hy30]; decide)) ev31 ?_
              refine xi_iconst (pc' := 9) (v := 1) kc_12_8 rfl rfl ?_
              refine xcps2 (α := Int32) ((v31 : Int32) + 1) (fun v32 ev32 => ?_)
              have rv32 := xc_rng v32
              refine xi_iadd (pc' := 10) (v := v32) kc_12_9 rfl ev32 ?_
              refine xcps4 (xj_set (v := v32) hy30 ry30 6 (by first | omega | decide) (by first | omega | decide)) (fun y33 s33 hy33 ry33 => ?_)
              refine xi_iastore (pc' := 11) (x' := y33) kc_12_10 rfl A30 rfl (xi_in (by decide) (by rw [hy30]; decide)) s33 (fun hh33 eh33 => ?_)
              have K34 := xk_pa K (xk_wa rfl) xD_140 hy33 ry33 eh33
              refine xi_iload_n (pc' := 12) (x := (-6)) kc_12_11 rfl rfl ?_
              refine xi_ireturn kc_12_12 mr_12 rfl ?_
              show xw J ov (d + 2) 61 (150, [(0, .ref 115), (1, .int x1), (2, .int x2), (3, .int x3), (4, .int x4), (5, .int x5), (6, .int x6)], [.int (-6)], hh33) _
              refine xi_ireturn kc_61_150 mr_61 rfl ?_
              have zcm6 : ((-6) : Int32).toInt = (-6) := by decide
              exact kk (-6) hh33 (by omega) K34
            · refine xi_cmf (pc' := 129) kc_61_126 rfl (xc_gt_f (X := x5.toInt) (Y := 600) rfl (by decide) (by omega)) ?_
              refine xi_iload_n (pc' := 130) (x := x3) kc_61_129 rfl rfl ?_
              refine xi_bipush (pc' := 132) (v := 50) kc_61_130 rfl rfl ?_
              by_cases c35 : 50 < x3.toInt
              · refine xi_cmt (pc' := 144) kc_61_132 rfl (xc_gt_t (X := x3.toInt) (Y := 50) rfl (by decide) (by omega)) ?_
                refine xi_aload_n (pc' := 145) (x := 115) kc_61_144 rfl rfl ?_
                refine xi_bipush (pc' := 147) (v := (-6)) kc_61_145 rfl rfl ?_
                refine xi_virtual (mj := 12) (as := [.int (-6)]) (st1 := []) (lv0 := [(0, .ref 115), (1, .int (-6))]) kc_61_147 rfl rfl rfl rfl rfl A14 (Nat.le_of_ble_eq_true rfl) (hJ _ _ _ _ (by decide)) (xm_le ml_12 rfl) rfl ?_
                refine xi_aload_n (pc' := 1) (x := 115) kc_12_0 rfl rfl ?_
                refine xi_getfield (pc' := 4) (v := .ref 140) kc_12_1 rfl rfl rfl A14 rfl ?_
                refine xi_iload_n (pc' := 5) (x := (-6)) kc_12_4 rfl rfl ?_
                refine xi_ineg (pc' := 6) (v := 6) kc_12_5 rfl rfl ?_
                refine xi_dup2 (pc' := 7) kc_12_6 rfl ⟨rfl, rfl⟩ ?_
                refine xcps4 (xk_arr K.1 xD_140) (fun y36 A36 hy36 ry36 => ?_)
                refine xcps4 (xj_get hy36 ry36 (i := 6) (by decide) (by decide)) (fun v37 ev37 bv37 dv37 => ?_)
                refine xi_iaload (pc' := 8) (v := v37) kc_12_7 rfl A36 (by decide) rfl (xi_in (by decide) (by rw [hy36]; decide)) ev37 ?_
                refine xi_iconst (pc' := 9) (v := 1) kc_12_8 rfl rfl ?_
                refine xcps2 (α := Int32) ((v37 : Int32) + 1) (fun v38 ev38 => ?_)
                have rv38 := xc_rng v38
                refine xi_iadd (pc' := 10) (v := v38) kc_12_9 rfl ev38 ?_
                refine xcps4 (xj_set (v := v38) hy36 ry36 6 (by first | omega | decide) (by first | omega | decide)) (fun y39 s39 hy39 ry39 => ?_)
                refine xi_iastore (pc' := 11) (x' := y39) kc_12_10 rfl A36 rfl (xi_in (by decide) (by rw [hy36]; decide)) s39 (fun hh39 eh39 => ?_)
                have K40 := xk_pa K (xk_wa rfl) xD_140 hy39 ry39 eh39
                refine xi_iload_n (pc' := 12) (x := (-6)) kc_12_11 rfl rfl ?_
                refine xi_ireturn kc_12_12 mr_12 rfl ?_
                show xw J ov (d + 2) 61 (150, [(0, .ref 115), (1, .int x1), (2, .int x2), (3, .int x3), (4, .int x4), (5, .int x5), (6, .int x6)], [.int (-6)], hh39) _
                refine xi_ireturn kc_61_150 mr_61 rfl ?_
                have zcm6 : ((-6) : Int32).toInt = (-6) := by decide
                exact kk (-6) hh39 (by omega) K40
              · refine xi_cmf (pc' := 135) kc_61_132 rfl (xc_gt_f (X := x3.toInt) (Y := 50) rfl (by decide) (by omega)) ?_
                refine xi_aload_n (pc' := 136) (x := 115) kc_61_135 rfl rfl ?_
                refine xi_getfield (pc' := 139) (v := .int u8) kc_61_136 rfl rfl rfl A14 rfl ?_
                refine xi_bipush (pc' := 141) (v := 20) kc_61_139 rfl rfl ?_
                by_cases c41 : u8.toInt = 20
                · refine xi_cmf (pc' := 144) kc_61_141 rfl (xc_ne_f (X := u8.toInt) (Y := 20) rfl (by decide) (by omega)) ?_
                  refine xi_aload_n (pc' := 145) (x := 115) kc_61_144 rfl rfl ?_
                  refine xi_bipush (pc' := 147) (v := (-6)) kc_61_145 rfl rfl ?_
                  refine xi_virtual (mj := 12) (as := [.int (-6)]) (st1 := []) (lv0 := [(0, .ref 115), (1, .int (-6))]) kc_61_147 rfl rfl rfl rfl rfl A14 (Nat.le_of_ble_eq_true rfl) (hJ _ _ _ _ (by decide)) (xm_le ml_12 rfl) rfl ?_
                  refine xi_aload_n (pc' := 1) (x := 115) kc_12_0 rfl rfl ?_
                  refine xi_getfield (pc' := 4) (v := .ref 140) kc_12_1 rfl rfl rfl A14 rfl ?_
                  refine xi_iload_n (pc' := 5) (x := (-6)) kc_12_4 rfl rfl ?_
                  refine xi_ineg (pc' := 6) (v := 6) kc_12_5 rfl rfl ?_
                  refine xi_dup2 (pc' := 7) kc_12_6 rfl ⟨rfl, rfl⟩ ?_
                  refine xcps4 (xk_arr K.1 xD_140) (fun y42 A42 hy42 ry42 => ?_)
                  refine xcps4 (xj_get hy42 ry42 (i := 6) (by decide) (by decide)) (fun v43 ev43 bv43 dv43 => ?_)
                  refine xi_iaload (pc' := 8) (v := v43) kc_12_7 rfl A42 (by decide) rfl (xi_in (by decide) (by rw [hy42]; decide)) ev43 ?_
                  refine xi_iconst (pc' := 9) (v := 1) kc_12_8 rfl rfl ?_
                  refine xcps2 (α := Int32) ((v43 : Int32) + 1) (fun v44 ev44 => ?_)
                  have rv44 := xc_rng v44
                  refine xi_iadd (pc' := 10) (v := v44) kc_12_9 rfl ev44 ?_
                  refine xcps4 (xj_set (v := v44) hy42 ry42 6 (by first | omega | decide) (by first | omega | decide)) (fun y45 s45 hy45 ry45 => ?_)
                  refine xi_iastore (pc' := 11) (x' := y45) kc_12_10 rfl A42 rfl (xi_in (by decide) (by rw [hy42]; decide)) s45 (fun hh45 eh45 => ?_)
                  have K46 := xk_pa K (xk_wa rfl) xD_140 hy45 ry45 eh45
                  refine xi_iload_n (pc' := 12) (x := (-6)) kc_12_11 rfl rfl ?_
                  refine xi_ireturn kc_12_12 mr_12 rfl ?_
                  show xw J ov (d + 2) 61 (150, [(0, .ref 115), (1, .int x1), (2, .int x2), (3, .int x3), (4, .int x4), (5, .int x5), (6, .int x6)], [.int (-6)], hh45) _
                  refine xi_ireturn kc_61_150 mr_61 rfl ?_
                  have zcm6 : ((-6) : Int32).toInt = (-6) := by decide
                  exact kk (-6) hh45 (by omega) K46
                · refine xi_cmt (pc' := 151) kc_61_141 rfl (xc_ne_t (X := u8.toInt) (Y := 20) rfl (by decide) (by omega)) ?_
                  refine xi_aload_n (pc' := 152) (x := 115) kc_61_151 rfl rfl ?_
                  refine xi_getfield (pc' := 155) (v := .ref 143) kc_61_152 rfl rfl rfl A14 rfl ?_
                  refine xi_aload_n (pc' := 156) (x := 115) kc_61_155 rfl rfl ?_
                  refine xi_getfield (pc' := 159) (v := .int u8) kc_61_156 rfl rfl rfl A14 rfl ?_
                  refine xi_iload_n (pc' := 160) (x := x1) kc_61_159 rfl rfl ?_
                  refine xcps4 (xk_arr K.1 xD_143) (fun y47 A47 hy47 ry47 => ?_)
                  refine xcps4 (xj_set (v := x1) hy47 ry47 u8 (by first | omega | decide) (by first | omega | decide)) (fun y48 s48 hy48 ry48 => ?_)
                  refine xi_iastore (pc' := 161) (x' := y48) kc_61_160 rfl A47 rfl (xi_in (by omega) (by rw [hy47]; omega)) s48 (fun hh48 eh48 => ?_)
                  have K49 := xk_pa K (xk_wa rfl) xD_143 hy48 ry48 eh48
                  refine xi_aload_n (pc' := 162) (x := 115) kc_61_161 rfl rfl ?_
                  have A50 := ((eh48.2.1 115 (by decide)).trans A14)
                  refine xi_getfield (pc' := 165) (v := .ref 144) kc_61_162 rfl rfl rfl A50 rfl ?_
                  refine xi_aload_n (pc' := 166) (x := 115) kc_61_165 rfl rfl ?_
                  refine xi_getfield (pc' := 169) (v := .int u8) kc_61_166 rfl rfl rfl A50 rfl ?_
                  refine xi_iload_n (pc' := 170) (x := x2) kc_61_169 rfl rfl ?_
                  refine xcps4 (xk_arr K49.1 xD_144) (fun y51 A51 hy51 ry51 => ?_)
                  refine xcps4 (xj_set (v := x2) hy51 ry51 u8 (by first | omega | decide) (by first | omega | decide)) (fun y52 s52 hy52 ry52 => ?_)
                  refine xi_iastore (pc' := 171) (x' := y52) kc_61_170 rfl A51 rfl (xi_in (by omega) (by rw [hy51]; omega)) s52 (fun hh52 eh52 => ?_)
                  have K53 := xk_pa K49 (xk_wa rfl) xD_144 hy52 ry52 eh52
                  refine xi_aload_n (pc' := 172) (x := 115) kc_61_171 rfl rfl ?_
                  have A54 := ((eh52.2.1 115 (by decide)).trans A50)
                  refine xi_getfield (pc' := 175) (v := .ref 145) kc_61_172 rfl rfl rfl A54 rfl ?_
                  refine xi_aload_n (pc' := 176) (x := 115) kc_61_175 rfl rfl ?_
                  refine xi_getfield (pc' := 179) (v := .int u8) kc_61_176 rfl rfl rfl A54 rfl ?_
                  refine xi_iload_n (pc' := 180) (x := x3) kc_61_179 rfl rfl ?_
                  refine xcps4 (xk_arr K53.1 xD_145) (fun y55 A55 hy55 ry55 => ?_)
                  refine xcps4 (xj_set (v := x3) hy55 ry55 u8 (by first | omega | decide) (by first | omega | decide)) (fun y56 s56 hy56 ry56 => ?_)
                  refine xi_iastore (pc' := 181) (x' := y56) kc_61_180 rfl A55 rfl (xi_in (by omega) (by rw [hy55]; omega)) s56 (fun hh56 eh56 => ?_)
                  have K57 := xk_pa K53 (xk_wa rfl) xD_145 hy56 ry56 eh56
                  refine xi_aload_n (pc' := 182) (x := 115) kc_61_181 rfl rfl ?_
                  have A58 := ((eh56.2.1 115 (by decide)).trans A54)
                  refine xi_getfield (pc' := 185) (v := .ref 146) kc_61_182 rfl rfl rfl A58 rfl ?_
                  refine xi_aload_n (pc' := 186) (x := 115) kc_61_185 rfl rfl ?_
                  refine xi_getfield (pc' := 189) (v := .int u8) kc_61_186 rfl rfl rfl A58 rfl ?_
                  refine xi_iload (pc' := 191) (x := x4) kc_61_189 rfl rfl ?_
                  have t59 : 0 ≤ x4.toInt ∧ x4.toInt ≤ 600 := by omega
                  refine xcps4 (xk_arr K57.1 xD_146) (fun y60 A60 hy60 ry60 => ?_)
                  refine xcps4 (xj_set (v := x4) hy60 ry60 u8 (by first | omega | decide) (by first | omega | decide)) (fun y61 s61 hy61 ry61 => ?_)
                  refine xi_iastore (pc' := 192) (x' := y61) kc_61_191 rfl A60 rfl (xi_in (by omega) (by rw [hy60]; omega)) s61 (fun hh61 eh61 => ?_)
                  have K62 := xk_pa K57 (xk_wa rfl) xD_146 hy61 ry61 eh61
                  refine xi_aload_n (pc' := 193) (x := 115) kc_61_192 rfl rfl ?_
                  have A63 := ((eh61.2.1 115 (by decide)).trans A58)
                  refine xi_getfield (pc' := 196) (v := .ref 147) kc_61_193 rfl rfl rfl A63 rfl ?_
                  refine xi_aload_n (pc' := 197) (x := 115) kc_61_196 rfl rfl ?_
                  refine xi_getfield (pc' := 200) (v := .int u8) kc_61_197 rfl rfl rfl A63 rfl ?_
                  refine xi_iload (pc' := 202) (x := x5) kc_61_200 rfl rfl ?_
                  have t64 : 0 ≤ x5.toInt ∧ x5.toInt ≤ 600 := by omega
                  refine xcps4 (xk_arr K62.1 xD_147) (fun y65 A65 hy65 ry65 => ?_)
                  refine xcps4 (xj_set (v := x5) hy65 ry65 u8 (by first | omega | decide) (by first | omega | decide)) (fun y66 s66 hy66 ry66 => ?_)
                  refine xi_iastore (pc' := 203) (x' := y66) kc_61_202 rfl A65 rfl (xi_in (by omega) (by rw [hy65]; omega)) s66 (fun hh66 eh66 => ?_)
                  have K67 := xk_pa K62 (xk_wa rfl) xD_147 hy66 ry66 eh66
                  refine xi_aload_n (pc' := 204) (x := 115) kc_61_203 rfl rfl ?_
                  refine xi_dup (pc' := 205) kc_61_204 rfl rfl ?_
                  have A68 := ((eh66.2.1 115 (by decide)).trans A63)
                  refine xi_getfield (pc' := 208) (v := .int u8) kc_61_205 rfl rfl rfl A68 rfl ?_
                  refine xi_iconst (pc' := 209) (v := 1) kc_61_208 rfl rfl ?_
                  refine xcps2 (α := Int32) (u8 + 1) (fun v69 ev69 => ?_)
                  have zv69 : v69.toInt = (u8.toInt + 1) := by rw [← ev69]; exact (xz_add (X := u8.toInt) (Y := 1) rfl (by decide) (by omega) (by omega)).trans (by omega)
                  refine xi_iadd (pc' := 210) (v := v69) kc_61_209 rfl ev69 ?_
                  refine xi_putfield (pc' := 213) (fs' := [.int u1, .int u2, .ref 116, .ref 117, .ref 118, .ref 119, .ref 120, .ref 121, .ref 122, .ref 123, .ref 124, .ref 125, .ref 126, .ref 127, .ref 128, .ref 129, .int u3, .ref 130, .int u4, .ref 131, .ref 132, .ref 133, .ref 134, .int u5, .ref 135, .ref 136, .ref 137, .ref 138, .ref 139, .ref 140, .ref 141, .ref 142, .int u6, .int u7, .int v69, .ref 143, .ref 144, .ref 145, .ref 146, .ref 147, .ref 148, .int u9, .ref 149, .ref 150, .ref 151, .int u10, .ref 152, .ref 153, .ref 154, .ref 155, .ref 156, .ref 157, .ref 158, .ref 159, .int u11, .ref 160, .int u12, .ref 161, .ref 162, .ref 163, .ref 164, .int u13, .ref 165, .ref 166]) kc_61_210 rfl rfl rfl A68 rfl rfl rfl (Nat.le_of_ble_eq_true rfl) rfl (fun hh71 eh70 => ?_)
                  have K72 := xk_pf (k := 34) (v := v69) K67 (xk_wf rfl) xD_115 A68 rfl (by first | omega | decide) (by first | omega | decide) eh70 rfl
                  refine xi_aload_n (pc' := 214) (x := 115) kc_61_213 rfl rfl ?_
                  refine xi_getfield (pc' := 217) (v := .int v69) kc_61_214 rfl rfl rfl eh70.1 rfl ?_
                  refine xi_iconst (pc' := 218) (v := 1) kc_61_217 rfl rfl ?_
                  refine xcps2 (α := Int32) (v69 - 1) (fun v73 ev73 => ?_)
                  have zv73 : v73.toInt = u8.toInt := by rw [← ev73]; exact (xz_sub (X := (u8.toInt + 1)) (Y := 1) zv69 (by decide) (by omega) (by omega)).trans (by omega)
                  refine xi_isub (pc' := 219) (v := v73) kc_61_218 rfl ev73 ?_
                  refine xi_ireturn kc_61_219 mr_61 rfl ?_
                  exact kk v73 hh71 (by omega) K72
          · refine xi_cmf (pc' := 114) kc_61_111 rfl (xc_gt_f (X := x5.toInt) (Y := x4.toInt) rfl rfl (by omega)) ?_
            refine xi_aload_n (pc' := 115) (x := 115) kc_61_114 rfl rfl ?_
            refine xi_bipush (pc' := 117) (v := (-4)) kc_61_115 rfl rfl ?_
            refine xi_virtual (mj := 12) (as := [.int (-4)]) (st1 := []) (lv0 := [(0, .ref 115), (1, .int (-4))]) kc_61_117 rfl rfl rfl rfl rfl A14 (Nat.le_of_ble_eq_true rfl) (hJ _ _ _ _ (by decide)) (xm_le ml_12 rfl) rfl ?_
            refine xi_aload_n (pc' := 1) (x := 115) kc_12_0 rfl rfl ?_
            refine xi_getfield (pc' := 4) (v := .ref 140) kc_12_1 rfl rfl rfl A14 rfl ?_
            refine xi_iload_n (pc' := 5) (x := (-4)) kc_12_4 rfl rfl ?_
            refine xi_ineg (pc' := 6) (v := 4) kc_12_5 rfl rfl ?_
            refine xi_dup2 (pc' := 7) kc_12_6 rfl ⟨rfl, rfl⟩ ?_
            refine xcps4 (xk_arr K.1 xD_140) (fun y74 A74 hy74 ry74 => ?_)
            refine xcps4 (xj_get hy74 ry74 (i := 4) (by decide) (by decide)) (fun v75 ev75 bv75 dv75 => ?_)
            refine xi_iaload (pc' := 8) (v := v75) kc_12_7 rfl A74 (by decide) rfl (xi_in (by decide) (by rw [hy74]; decide)) ev75 ?_
            refine xi_iconst (pc' := 9) (v := 1) kc_12_8 rfl rfl ?_
            refine xcps2 (α := Int32) ((v75 : Int32) + 1) (fun v76 ev76 => ?_)
            have rv76 := xc_rng v76
            refine xi_iadd (pc' := 10) (v := v76) kc_12_9 rfl ev76 ?_
            refine xcps4 (xj_set (v := v76) hy74 ry74 4 (by first | omega | decide) (by first | omega | decide)) (fun y77 s77 hy77 ry77 => ?_)
            refine xi_iastore (pc' := 11) (x' := y77) kc_12_10 rfl A74 rfl (xi_in (by decide) (by rw [hy74]; decide)) s77 (fun hh77 eh77 => ?_)
            have K78 := xk_pa K (xk_wa rfl) xD_140 hy77 ry77 eh77
            refine xi_iload_n (pc' := 12) (x := (-4)) kc_12_11 rfl rfl ?_
            refine xi_ireturn kc_12_12 mr_12 rfl ?_
            show xw J ov (d + 2) 61 (120, [(0, .ref 115), (1, .int x1), (2, .int x2), (3, .int x3), (4, .int x4), (5, .int x5), (6, .int x6)], [.int (-4)], hh77) _
            refine xi_ireturn kc_61_120 mr_61 rfl ?_
            have zcm4 : ((-4) : Int32).toInt = (-4) := by decide
            exact kk (-4) hh77 (by omega) K78
    · refine xi_cmf (pc' := 46) kc_61_43 rfl (xc_ge_f (X := x6.toInt) (Y := u8.toInt) rfl rfl (by omega)) ?_
      refine xi_aload_n (pc' := 47) (x := 115) kc_61_46 rfl rfl ?_
      refine xi_getfield (pc' := 50) (v := .ref 143) kc_61_47 rfl rfl rfl A14 rfl ?_
      refine xi_iload (pc' := 52) (x := x6) kc_61_50 rfl rfl ?_
      refine xcps4 (xk_arr K.1 xD_143) (fun y79 A79 hy79 ry79 => ?_)
      refine xcps4 (xj_get hy79 ry79 (i := x6) (by omega) (by omega)) (fun v80 ev80 bv80 dv80 => ?_)
      refine xi_iaload (pc' := 53) (v := v80) kc_61_52 rfl A79 (by decide) rfl (xi_in (by omega) (by rw [hy79]; omega)) ev80 ?_
      refine xi_iload_n (pc' := 54) (x := x1) kc_61_53 rfl rfl ?_
      by_cases c81 : v80.toInt = x1.toInt
      · refine xi_cmf (pc' := 57) kc_61_54 rfl (xc_ne_f (X := v80.toInt) (Y := x1.toInt) rfl rfl (by omega)) ?_
        refine xi_iload (pc' := 59) (x := x4) kc_61_57 rfl rfl ?_
        refine xi_aload_n (pc' := 60) (x := 115) kc_61_59 rfl rfl ?_
        refine xi_getfield (pc' := 63) (v := .ref 147) kc_61_60 rfl rfl rfl A14 rfl ?_
        refine xi_iload (pc' := 65) (x := x6) kc_61_63 rfl rfl ?_
        refine xcps4 (xk_arr K.1 xD_147) (fun y82 A82 hy82 ry82 => ?_)
        refine xcps4 (xj_get hy82 ry82 (i := x6) (by omega) (by omega)) (fun v83 ev83 bv83 dv83 => ?_)
        refine xi_iaload (pc' := 66) (v := v83) kc_61_65 rfl A82 (by decide) rfl (xi_in (by omega) (by rw [hy82]; omega)) ev83 ?_
        by_cases c84 : v83.toInt ≤ x4.toInt
        · refine xi_cmt (pc' := 88) kc_61_66 rfl (xc_ge_t (X := x4.toInt) (Y := v83.toInt) rfl rfl (by omega)) ?_
          refine xcps2 (α := Int32) (x6 + 1) (fun v85 ev85 => ?_)
          have zv85 : v85.toInt = (x6.toInt + 1) := by rw [← ev85]; exact (xz_add (X := x6.toInt) (Y := 1) rfl (by decide) (by omega) (by omega)).trans (by omega)
          refine xi_iinc (pc' := 91) (x := x6) (v := v85) (lv' := [(6, .int v85), (0, .ref 115), (1, .int x1), (2, .int x2), (3, .int x3), (4, .int x4), (5, .int x5)]) kc_61_88 rfl rfl ev85 rfl (xm_lt ml_61 rfl) ?_
          refine xi_goto (pc' := 37) kc_61_91 rfl ?_
          refine xw_lv (b := [(0, .ref 115), (1, .int x1), (2, .int x2), (3, .int x3), (4, .int x4), (5, .int x5), (6, .int v85)]) (lvS_cons (lvS_cons (lvS_cons (lvS_cons (lvS_cons (lvS_cons (lvS_cons (lvS_nil (show ([6, 0, 1, 2, 3, 4, 5] : List Nat).Nodup by decide)) rfl) rfl) rfl) rfl) rfl) rfl) rfl) ?_
          exact i0 x1 x2 x3 x4 x5 v85 h (by omega) (by omega) (by omega) K (by omega)
        · refine xi_cmf (pc' := 69) kc_61_66 rfl (xc_ge_f (X := x4.toInt) (Y := v83.toInt) rfl rfl (by omega)) ?_
          refine xi_iload (pc' := 71) (x := x5) kc_61_69 rfl rfl ?_
          refine xi_aload_n (pc' := 72) (x := 115) kc_61_71 rfl rfl ?_
          refine xi_getfield (pc' := 75) (v := .ref 146) kc_61_72 rfl rfl rfl A14 rfl ?_
          refine xi_iload (pc' := 77) (x := x6) kc_61_75 rfl rfl ?_
          refine xcps4 (xk_arr K.1 xD_146) (fun y86 A86 hy86 ry86 => ?_)
          refine xcps4 (xj_get hy86 ry86 (i := x6) (by omega) (by omega)) (fun v87 ev87 bv87 dv87 => ?_)
          refine xi_iaload (pc' := 78) (v := v87) kc_61_77 rfl A86 (by decide) rfl (xi_in (by omega) (by rw [hy86]; omega)) ev87 ?_
          by_cases c88 : x5.toInt ≤ v87.toInt
          · refine xi_cmt (pc' := 88) kc_61_78 rfl (xc_le_t (X := x5.toInt) (Y := v87.toInt) rfl rfl (by omega)) ?_
            refine xcps2 (α := Int32) (x6 + 1) (fun v89 ev89 => ?_)
            have zv89 : v89.toInt = (x6.toInt + 1) := by rw [← ev89]; exact (xz_add (X := x6.toInt) (Y := 1) rfl (by decide) (by omega) (by omega)).trans (by omega)
            refine xi_iinc (pc' := 91) (x := x6) (v := v89) (lv' := [(6, .int v89), (0, .ref 115), (1, .int x1), (2, .int x2), (3, .int x3), (4, .int x4), (5, .int x5)]) kc_61_88 rfl rfl ev89 rfl (xm_lt ml_61 rfl) ?_
            refine xi_goto (pc' := 37) kc_61_91 rfl ?_
            refine xw_lv (b := [(0, .ref 115), (1, .int x1), (2, .int x2), (3, .int x3), (4, .int x4), (5, .int x5), (6, .int v89)]) (lvS_cons (lvS_cons (lvS_cons (lvS_cons (lvS_cons (lvS_cons (lvS_cons (lvS_nil (show ([6, 0, 1, 2, 3, 4, 5] : List Nat).Nodup by decide)) rfl) rfl) rfl) rfl) rfl) rfl) rfl) ?_
            exact i0 x1 x2 x3 x4 x5 v89 h (by omega) (by omega) (by omega) K (by omega)
          · refine xi_cmf (pc' := 81) kc_61_78 rfl (xc_le_f (X := x5.toInt) (Y := v87.toInt) rfl rfl (by omega)) ?_
            refine xi_aload_n (pc' := 82) (x := 115) kc_61_81 rfl rfl ?_
            refine xi_bipush (pc' := 84) (v := (-3)) kc_61_82 rfl rfl ?_
            refine xi_virtual (mj := 12) (as := [.int (-3)]) (st1 := []) (lv0 := [(0, .ref 115), (1, .int (-3))]) kc_61_84 rfl rfl rfl rfl rfl A14 (Nat.le_of_ble_eq_true rfl) (hJ _ _ _ _ (by decide)) (xm_le ml_12 rfl) rfl ?_
            refine xi_aload_n (pc' := 1) (x := 115) kc_12_0 rfl rfl ?_
            refine xi_getfield (pc' := 4) (v := .ref 140) kc_12_1 rfl rfl rfl A14 rfl ?_
            refine xi_iload_n (pc' := 5) (x := (-3)) kc_12_4 rfl rfl ?_
            refine xi_ineg (pc' := 6) (v := 3) kc_12_5 rfl rfl ?_
            refine xi_dup2 (pc' := 7) kc_12_6 rfl ⟨rfl, rfl⟩ ?_
            refine xcps4 (xk_arr K.1 xD_140) (fun y90 A90 hy90 ry90 => ?_)
            refine xcps4 (xj_get hy90 ry90 (i := 3) (by decide) (by decide)) (fun v91 ev91 bv91 dv91 => ?_)
            refine xi_iaload (pc' := 8) (v := v91) kc_12_7 rfl A90 (by decide) rfl (xi_in (by decide) (by rw [hy90]; decide)) ev91 ?_
            refine xi_iconst (pc' := 9) (v := 1) kc_12_8 rfl rfl ?_
            refine xcps2 (α := Int32) ((v91 : Int32) + 1) (fun v92 ev92 => ?_)
            have rv92 := xc_rng v92
            refine xi_iadd (pc' := 10) (v := v92) kc_12_9 rfl ev92 ?_
            refine xcps4 (xj_set (v := v92) hy90 ry90 3 (by first | omega | decide) (by first | omega | decide)) (fun y93 s93 hy93 ry93 => ?_)
            refine xi_iastore (pc' := 11) (x' := y93) kc_12_10 rfl A90 rfl (xi_in (by decide) (by rw [hy90]; decide)) s93 (fun hh93 eh93 => ?_)
            have K94 := xk_pa K (xk_wa rfl) xD_140 hy93 ry93 eh93
            refine xi_iload_n (pc' := 12) (x := (-3)) kc_12_11 rfl rfl ?_
            refine xi_ireturn kc_12_12 mr_12 rfl ?_
            show xw J ov (d + 2) 61 (87, [(0, .ref 115), (1, .int x1), (2, .int x2), (3, .int x3), (4, .int x4), (5, .int x5), (6, .int x6)], [.int (-3)], hh93) _
            refine xi_ireturn kc_61_87 mr_61 rfl ?_
            have zcm3 : ((-3) : Int32).toInt = (-3) := by decide
            exact kk (-3) hh93 (by omega) K94
      · refine xi_cmt (pc' := 88) kc_61_54 rfl (xc_ne_t (X := v80.toInt) (Y := x1.toInt) rfl rfl (by omega)) ?_
        refine xcps2 (α := Int32) (x6 + 1) (fun v95 ev95 => ?_)
        have zv95 : v95.toInt = (x6.toInt + 1) := by rw [← ev95]; exact (xz_add (X := x6.toInt) (Y := 1) rfl (by decide) (by omega) (by omega)).trans (by omega)
        refine xi_iinc (pc' := 91) (x := x6) (v := v95) (lv' := [(6, .int v95), (0, .ref 115), (1, .int x1), (2, .int x2), (3, .int x3), (4, .int x4), (5, .int x5)]) kc_61_88 rfl rfl ev95 rfl (xm_lt ml_61 rfl) ?_
        refine xi_goto (pc' := 37) kc_61_91 rfl ?_
        refine xw_lv (b := [(0, .ref 115), (1, .int x1), (2, .int x2), (3, .int x3), (4, .int x4), (5, .int x5), (6, .int v95)]) (lvS_cons (lvS_cons (lvS_cons (lvS_cons (lvS_cons (lvS_cons (lvS_cons (lvS_nil (show ([6, 0, 1, 2, 3, 4, 5] : List Nat).Nodup by decide)) rfl) rfl) rfl) rfl) rfl) rfl) rfl) ?_
        exact i0 x1 x2 x3 x4 x5 v95 h (by omega) (by omega) (by omega) K (by omega)
set_option maxHeartbeats 4000000 in
theorem mt_61_0 {J : xe_J} {ov : List (List Int32)} (hJ : ∀ d mj as h, mj ≠ xe_loff → J d mj as h = none) (hov1 : ov[1]? = some [10, 0, 0, 0, 0, 0]) (hov2 : ov[2]? = some [99, 30, 50, 50, 1, 99999]) {d : Nat} {Q : Option Value → xe_H → Prop} {h : xe_H} {x1 : Int32} {x2 : Int32} {x3 : Int32} {x4 : Int32} {x5 : Int32} (T : xt h) (kk : (∀ (r : Int32) (h' : xe_H), ((-6) ≤ r.toInt ∧ r.toInt ≤ 19) → xk [(0, 9), (115, 1), (83, 0), (29, 0), (31, 0), (33, 0), (35, 0), (37, 0), (39, 0), (41, 0), (43, 0), (45, 0), (47, 0), (49, 0), (51, 0), (125, 0), (29, 2), (31, 2), (33, 2), (35, 2), (37, 2), (39, 2), (41, 2), (43, 2), (45, 2), (47, 2), (49, 2), (51, 2), (127, 0), (1, 5), (115, 23)] h h' → Q (some (.int r)) h')) : xw J ov (d + 2) 61 (0, [(0, .ref 115), (1, .int x1), (2, .int x2), (3, .int x3), (4, .int x4), (5, .int x5)], [], h) Q := by
  have K : xk [(0, 9), (115, 1), (83, 0), (29, 0), (31, 0), (33, 0), (35, 0), (37, 0), (39, 0), (41, 0), (43, 0), (45, 0), (47, 0), (49, 0), (51, 0), (125, 0), (29, 2), (31, 2), (33, 2), (35, 2), (37, 2), (39, 2), (41, 2), (43, 2), (45, 2), (47, 2), (49, 2), (51, 2), (127, 0), (1, 5), (115, 23)] h h := xk_re T
  have rx1 := xc_rng x1
  have rx2 := xc_rng x2
  have rx3 := xc_rng x3
  have rx4 := xc_rng x4
  have rx5 := xc_rng x5
  refine xi_aload_n (pc' := 1) (x := 115) kc_61_0 rfl rfl ?_
  refine xi_iconst (pc' := 2) (v := 0) kc_61_1 rfl rfl ?_
  refine xp_115 K.1 (fun u1 u2 u3 u4 u5 u6 u7 u8 u9 u10 u11 u12 u13 bu1 bu2 bu3 bu4 bu5 bu6 bu7 bu8 bu9 bu10 bu11 bu12 bu13 A14 => ?_)
  refine xi_putfield (pc' := 5) (fs' := [.int 0, .int u2, .ref 116, .ref 117, .ref 118, .ref 119, .ref 120, .ref 121, .ref 122, .ref 123, .ref 124, .ref 125, .ref 126, .ref 127, .ref 128, .ref 129, .int u3, .ref 130, .int u4, .ref 131, .ref 132, .ref 133, .ref 134, .int u5, .ref 135, .ref 136, .ref 137, .ref 138, .ref 139, .ref 140, .ref 141, .ref 142, .int u6, .int u7, .int u8, .ref 143, .ref 144, .ref 145, .ref 146, .ref 147, .ref 148, .int u9, .ref 149, .ref 150, .ref 151, .int u10, .ref 152, .ref 153, .ref 154, .ref 155, .ref 156, .ref 157, .ref 158, .ref 159, .int u11, .ref 160, .int u12, .ref 161, .ref 162, .ref 163, .ref 164, .int u13, .ref 165, .ref 166]) kc_61_2 rfl rfl rfl A14 rfl rfl rfl (Nat.le_of_ble_eq_true rfl) rfl (fun hh16 eh15 => ?_)
  have K17 := xk_pf (k := 0) (v := 0) K (xk_wf rfl) xD_115 A14 rfl (by first | omega | decide) (by first | omega | decide) eh15 rfl
  refine xi_iload_n (pc' := 6) (x := x1) kc_61_5 rfl rfl ?_
  refine xi_static (mj := 10) (as := [.int x1]) (st1 := []) (lv0 := [(0, .int x1)]) kc_61_6 rfl rfl (Nat.le_of_ble_eq_true rfl) rfl rfl (Nat.le_of_ble_eq_true rfl) (hJ _ _ _ _ (by decide)) (xm_le ml_10 rfl) rfl ?_
  refine xi_iload_n (pc' := 1) (x := x1) kc_10_0 rfl rfl ?_
  refine xi_iconst (pc' := 2) (v := 0) kc_10_1 rfl rfl ?_
  refine xi_iconst (pc' := 3) (v := 5) kc_10_2 rfl rfl ?_
  refine xi_static (mj := 11) (as := [.int x1, .int 0, .int 5]) (st1 := []) (lv0 := [(0, .int x1), (1, .int 0), (2, .int 5)]) kc_10_3 rfl rfl (Nat.le_of_ble_eq_true rfl) rfl rfl (Nat.le_of_ble_eq_true rfl) (hJ _ _ _ _ (by decide)) (xm_le ml_11 rfl) rfl ?_
  refine xi_iload_n (pc' := 1) (x := x1) kc_11_0 rfl rfl ?_
  refine xi_iload_n (pc' := 2) (x := 0) kc_11_1 rfl rfl ?_
  by_cases c18 : x1.toInt < 0
  · refine xi_cmt (pc' := 14) kc_11_2 rfl (xc_lt_t (X := x1.toInt) (Y := 0) rfl (by decide) (by omega)) ?_
    refine xi_iconst (pc' := 15) (v := 0) kc_11_14 rfl rfl ?_
    refine xi_ireturn kc_11_15 mr_11 rfl ?_
    show xw J ov (d + 1) 10 (6, [(0, .int x1)], [.int 0], hh16) _
    refine xi_ireturn kc_10_6 mr_10 rfl ?_
    show xw J ov (d + 2) 61 (9, [(0, .ref 115), (1, .int x1), (2, .int x2), (3, .int x3), (4, .int x4), (5, .int x5)], [.int 0], hh16) _
    refine xi_iff (pc' := 12) kc_61_9 rfl rfl ?_
    refine xi_aload_n (pc' := 13) (x := 115) kc_61_12 rfl rfl ?_
    refine xi_iconst (pc' := 14) (v := (-1)) kc_61_13 rfl rfl ?_
    refine xi_virtual (mj := 12) (as := [.int (-1)]) (st1 := []) (lv0 := [(0, .ref 115), (1, .int (-1))]) kc_61_14 rfl rfl rfl rfl rfl eh15.1 (Nat.le_of_ble_eq_true rfl) (hJ _ _ _ _ (by decide)) (xm_le ml_12 rfl) rfl ?_
    refine xi_aload_n (pc' := 1) (x := 115) kc_12_0 rfl rfl ?_
    refine xi_getfield (pc' := 4) (v := .ref 140) kc_12_1 rfl rfl rfl eh15.1 rfl ?_
    refine xi_iload_n (pc' := 5) (x := (-1)) kc_12_4 rfl rfl ?_
    refine xi_ineg (pc' := 6) (v := 1) kc_12_5 rfl rfl ?_
    refine xi_dup2 (pc' := 7) kc_12_6 rfl ⟨rfl, rfl⟩ ?_
    refine xcps4 (xk_arr K17.1 xD_140) (fun y19 A19 hy19 ry19 => ?_)
    refine xcps4 (xj_get hy19 ry19 (i := 1) (by decide) (by decide)) (fun v20 ev20 bv20 dv20 => ?_)
    refine xi_iaload (pc' := 8) (v := v20) kc_12_7 rfl A19 (by decide) rfl (xi_in (by decide) (by rw [hy19]; decide)) ev20 ?_
    refine xi_iconst (pc' := 9) (v := 1) kc_12_8 rfl rfl ?_
    refine xcps2 (α := Int32) ((v20 : Int32) + 1) (fun v21 ev21 => ?_)
    have rv21 := xc_rng v21
    refine xi_iadd (pc' := 10) (v := v21) kc_12_9 rfl ev21 ?_
    refine xcps4 (xj_set (v := v21) hy19 ry19 1 (by first | omega | decide) (by first | omega | decide)) (fun y22 s22 hy22 ry22 => ?_)
    refine xi_iastore (pc' := 11) (x' := y22) kc_12_10 rfl A19 rfl (xi_in (by decide) (by rw [hy19]; decide)) s22 (fun hh22 eh22 => ?_)
    have K23 := xk_pa K17 (xk_wa rfl) xD_140 hy22 ry22 eh22
    refine xi_iload_n (pc' := 12) (x := (-1)) kc_12_11 rfl rfl ?_
    refine xi_ireturn kc_12_12 mr_12 rfl ?_
    show xw J ov (d + 2) 61 (17, [(0, .ref 115), (1, .int x1), (2, .int x2), (3, .int x3), (4, .int x4), (5, .int x5)], [.int (-1)], hh22) _
    refine xi_ireturn kc_61_17 mr_61 rfl ?_
    have zcm1 : ((-1) : Int32).toInt = (-1) := by decide
    exact kk (-1) hh22 (by omega) K23
  · refine xi_cmf (pc' := 5) kc_11_2 rfl (xc_lt_f (X := x1.toInt) (Y := 0) rfl (by decide) (by omega)) ?_
    refine xi_iload_n (pc' := 6) (x := x1) kc_11_5 rfl rfl ?_
    refine xi_iload_n (pc' := 7) (x := 5) kc_11_6 rfl rfl ?_
    by_cases c24 : 5 < x1.toInt
    · refine xi_cmt (pc' := 14) kc_11_7 rfl (xc_gt_t (X := x1.toInt) (Y := 5) rfl (by decide) (by omega)) ?_
      refine xi_iconst (pc' := 15) (v := 0) kc_11_14 rfl rfl ?_
      refine xi_ireturn kc_11_15 mr_11 rfl ?_
      show xw J ov (d + 1) 10 (6, [(0, .int x1)], [.int 0], hh16) _
      refine xi_ireturn kc_10_6 mr_10 rfl ?_
      show xw J ov (d + 2) 61 (9, [(0, .ref 115), (1, .int x1), (2, .int x2), (3, .int x3), (4, .int x4), (5, .int x5)], [.int 0], hh16) _
      refine xi_iff (pc' := 12) kc_61_9 rfl rfl ?_
      refine xi_aload_n (pc' := 13) (x := 115) kc_61_12 rfl rfl ?_
      refine xi_iconst (pc' := 14) (v := (-1)) kc_61_13 rfl rfl ?_
      refine xi_virtual (mj := 12) (as := [.int (-1)]) (st1 := []) (lv0 := [(0, .ref 115), (1, .int (-1))]) kc_61_14 rfl rfl rfl rfl rfl eh15.1 (Nat.le_of_ble_eq_true rfl) (hJ _ _ _ _ (by decide)) (xm_le ml_12 rfl) rfl ?_
      refine xi_aload_n (pc' := 1) (x := 115) kc_12_0 rfl rfl ?_
      refine xi_getfield (pc' := 4) (v := .ref 140) kc_12_1 rfl rfl rfl eh15.1 rfl ?_
      refine xi_iload_n (pc' := 5) (x := (-1)) kc_12_4 rfl rfl ?_
      refine xi_ineg (pc' := 6) (v := 1) kc_12_5 rfl rfl ?_
      refine xi_dup2 (pc' := 7) kc_12_6 rfl ⟨rfl, rfl⟩ ?_
      refine xcps4 (xk_arr K17.1 xD_140) (fun y25 A25 hy25 ry25 => ?_)
      refine xcps4 (xj_get hy25 ry25 (i := 1) (by decide) (by decide)) (fun v26 ev26 bv26 dv26 => ?_)
      refine xi_iaload (pc' := 8) (v := v26) kc_12_7 rfl A25 (by decide) rfl (xi_in (by decide) (by rw [hy25]; decide)) ev26 ?_
      refine xi_iconst (pc' := 9) (v := 1) kc_12_8 rfl rfl ?_
      refine xcps2 (α := Int32) ((v26 : Int32) + 1) (fun v27 ev27 => ?_)
      have rv27 := xc_rng v27
      refine xi_iadd (pc' := 10) (v := v27) kc_12_9 rfl ev27 ?_
      refine xcps4 (xj_set (v := v27) hy25 ry25 1 (by first | omega | decide) (by first | omega | decide)) (fun y28 s28 hy28 ry28 => ?_)
      refine xi_iastore (pc' := 11) (x' := y28) kc_12_10 rfl A25 rfl (xi_in (by decide) (by rw [hy25]; decide)) s28 (fun hh28 eh28 => ?_)
      have K29 := xk_pa K17 (xk_wa rfl) xD_140 hy28 ry28 eh28
      refine xi_iload_n (pc' := 12) (x := (-1)) kc_12_11 rfl rfl ?_
      refine xi_ireturn kc_12_12 mr_12 rfl ?_
      show xw J ov (d + 2) 61 (17, [(0, .ref 115), (1, .int x1), (2, .int x2), (3, .int x3), (4, .int x4), (5, .int x5)], [.int (-1)], hh28) _
      refine xi_ireturn kc_61_17 mr_61 rfl ?_
      have zcm1 : ((-1) : Int32).toInt = (-1) := by decide
      exact kk (-1) hh28 (by omega) K29
    · refine xi_cmf (pc' := 10) kc_11_7 rfl (xc_gt_f (X := x1.toInt) (Y := 5) rfl (by decide) (by omega)) ?_
      refine xi_iconst (pc' := 11) (v := 1) kc_11_10 rfl rfl ?_
      refine xi_goto (pc' := 15) kc_11_11 rfl ?_
      refine xi_ireturn kc_11_15 mr_11 rfl ?_
      show xw J ov (d + 1) 10 (6, [(0, .int x1)], [.int 1], hh16) _
      refine xi_ireturn kc_10_6 mr_10 rfl ?_
      show xw J ov (d + 2) 61 (9, [(0, .ref 115), (1, .int x1), (2, .int x2), (3, .int x3), (4, .int x4), (5, .int x5)], [.int 1], hh16) _
      refine xi_ift (pc' := 18) kc_61_9 rfl rfl ?_
      refine xi_iload_n (pc' := 19) (x := x2) kc_61_18 rfl rfl ?_
      refine xi_iconst (pc' := 20) (v := 0) kc_61_19 rfl rfl ?_
      refine xi_iconst (pc' := 21) (v := 1) kc_61_20 rfl rfl ?_
      refine xi_static (mj := 11) (as := [.int x2, .int 0, .int 1]) (st1 := []) (lv0 := [(0, .int x2), (1, .int 0), (2, .int 1)]) kc_61_21 rfl rfl (Nat.le_of_ble_eq_true rfl) rfl rfl (Nat.le_of_ble_eq_true rfl) (hJ _ _ _ _ (by decide)) (xm_le ml_11 rfl) rfl ?_
      refine xi_iload_n (pc' := 1) (x := x2) kc_11_0 rfl rfl ?_
      refine xi_iload_n (pc' := 2) (x := 0) kc_11_1 rfl rfl ?_
      by_cases c30 : x2.toInt < 0
      · refine xi_cmt (pc' := 14) kc_11_2 rfl (xc_lt_t (X := x2.toInt) (Y := 0) rfl (by decide) (by omega)) ?_
        refine xi_iconst (pc' := 15) (v := 0) kc_11_14 rfl rfl ?_
        refine xi_ireturn kc_11_15 mr_11 rfl ?_
        show xw J ov (d + 2) 61 (24, [(0, .ref 115), (1, .int x1), (2, .int x2), (3, .int x3), (4, .int x4), (5, .int x5)], [.int 0], hh16) _
        refine xi_iff (pc' := 27) kc_61_24 rfl rfl ?_
        refine xi_aload_n (pc' := 28) (x := 115) kc_61_27 rfl rfl ?_
        refine xi_bipush (pc' := 30) (v := (-2)) kc_61_28 rfl rfl ?_
        refine xi_virtual (mj := 12) (as := [.int (-2)]) (st1 := []) (lv0 := [(0, .ref 115), (1, .int (-2))]) kc_61_30 rfl rfl rfl rfl rfl eh15.1 (Nat.le_of_ble_eq_true rfl) (hJ _ _ _ _ (by decide)) (xm_le ml_12 rfl) rfl ?_
        refine xi_aload_n (pc' := 1) (x := 115) kc_12_0 rfl rfl ?_
        refine xi_getfield (pc' := 4) (v := .ref 140) kc_12_1 rfl rfl rfl eh15.1 rfl ?_
        refine xi_iload_n (pc' := 5) (x := (-2)) kc_12_4 rfl rfl ?_
        refine xi_ineg (pc' := 6) (v := 2) kc_12_5 rfl rfl ?_
        refine xi_dup2 (pc' := 7) kc_12_6 rfl ⟨rfl, rfl⟩ ?_
        refine xcps4 (xk_arr K17.1 xD_140) (fun y31 A31 hy31 ry31 => ?_)
        refine xcps4 (xj_get hy31 ry31 (i := 2) (by decide) (by decide)) (fun v32 ev32 bv32 dv32 => ?_)
        refine xi_iaload (pc' := 8) (v := v32) kc_12_7 rfl A31 (by decide) rfl (xi_in (by decide) (by rw [hy31]; decide)) ev32 ?_
        refine xi_iconst (pc' := 9) (v := 1) kc_12_8 rfl rfl ?_
        refine xcps2 (α := Int32) ((v32 : Int32) + 1) (fun v33 ev33 => ?_)
        have rv33 := xc_rng v33
        refine xi_iadd (pc' := 10) (v := v33) kc_12_9 rfl ev33 ?_
        refine xcps4 (xj_set (v := v33) hy31 ry31 2 (by first | omega | decide) (by first | omega | decide)) (fun y34 s34 hy34 ry34 => ?_)
        refine xi_iastore (pc' := 11) (x' := y34) kc_12_10 rfl A31 rfl (xi_in (by decide) (by rw [hy31]; decide)) s34 (fun hh34 eh34 => ?_)
        have K35 := xk_pa K17 (xk_wa rfl) xD_140 hy34 ry34 eh34
        refine xi_iload_n (pc' := 12) (x := (-2)) kc_12_11 rfl rfl ?_
        refine xi_ireturn kc_12_12 mr_12 rfl ?_
        show xw J ov (d + 2) 61 (33, [(0, .ref 115), (1, .int x1), (2, .int x2), (3, .int x3), (4, .int x4), (5, .int x5)], [.int (-2)], hh34) _
        refine xi_ireturn kc_61_33 mr_61 rfl ?_
        have zcm2 : ((-2) : Int32).toInt = (-2) := by decide
        exact kk (-2) hh34 (by omega) K35
      · refine xi_cmf (pc' := 5) kc_11_2 rfl (xc_lt_f (X := x2.toInt) (Y := 0) rfl (by decide) (by omega)) ?_
        refine xi_iload_n (pc' := 6) (x := x2) kc_11_5 rfl rfl ?_
        refine xi_iload_n (pc' := 7) (x := 1) kc_11_6 rfl rfl ?_
        by_cases c36 : 1 < x2.toInt
        · refine xi_cmt (pc' := 14) kc_11_7 rfl (xc_gt_t (X := x2.toInt) (Y := 1) rfl (by decide) (by omega)) ?_
          refine xi_iconst (pc' := 15) (v := 0) kc_11_14 rfl rfl ?_
          refine xi_ireturn kc_11_15 mr_11 rfl ?_
          show xw J ov (d + 2) 61 (24, [(0, .ref 115), (1, .int x1), (2, .int x2), (3, .int x3), (4, .int x4), (5, .int x5)], [.int 0], hh16) _
          refine xi_iff (pc' := 27) kc_61_24 rfl rfl ?_
          refine xi_aload_n (pc' := 28) (x := 115) kc_61_27 rfl rfl ?_
          refine xi_bipush (pc' := 30) (v := (-2)) kc_61_28 rfl rfl ?_
          refine xi_virtual (mj := 12) (as := [.int (-2)]) (st1 := []) (lv0 := [(0, .ref 115), (1, .int (-2))]) kc_61_30 rfl rfl rfl rfl rfl eh15.1 (Nat.le_of_ble_eq_true rfl) (hJ _ _ _ _ (by decide)) (xm_le ml_12 rfl) rfl ?_
          refine xi_aload_n (pc' := 1) (x := 115) kc_12_0 rfl rfl ?_
          refine xi_getfield (pc' := 4) (v := .ref 140) kc_12_1 rfl rfl rfl eh15.1 rfl ?_
          refine xi_iload_n (pc' := 5) (x := (-2)) kc_12_4 rfl rfl ?_
          refine xi_ineg (pc' := 6) (v := 2) kc_12_5 rfl rfl ?_
          refine xi_dup2 (pc' := 7) kc_12_6 rfl ⟨rfl, rfl⟩ ?_
          refine xcps4 (xk_arr K17.1 xD_140) (fun y37 A37 hy37 ry37 => ?_)
          refine xcps4 (xj_get hy37 ry37 (i := 2) (by decide) (by decide)) (fun v38 ev38 bv38 dv38 => ?_)
          refine xi_iaload (pc' := 8) (v := v38) kc_12_7 rfl A37 (by decide) rfl (xi_in (by decide) (by rw [hy37]; decide)) ev38 ?_
          refine xi_iconst (pc' := 9) (v := 1) kc_12_8 rfl rfl ?_
          refine xcps2 (α := Int32) ((v38 : Int32) + 1) (fun v39 ev39 => ?_)
          have rv39 := xc_rng v39
          refine xi_iadd (pc' := 10) (v := v39) kc_12_9 rfl ev39 ?_
          refine xcps4 (xj_set (v := v39) hy37 ry37 2 (by first | omega | decide) (by first | omega | decide)) (fun y40 s40 hy40 ry40 => ?_)
          refine xi_iastore (pc' := 11) (x' := y40) kc_12_10 rfl A37 rfl (xi_in (by decide) (by rw [hy37]; decide)) s40 (fun hh40 eh40 => ?_)
          have K41 := xk_pa K17 (xk_wa rfl) xD_140 hy40 ry40 eh40
          refine xi_iload_n (pc' := 12) (x := (-2)) kc_12_11 rfl rfl ?_
          refine xi_ireturn kc_12_12 mr_12 rfl ?_
          show xw J ov (d + 2) 61 (33, [(0, .ref 115), (1, .int x1), (2, .int x2), (3, .int x3), (4, .int x4), (5, .int x5)], [.int (-2)], hh40) _
          refine xi_ireturn kc_61_33 mr_61 rfl ?_
          have zcm2 : ((-2) : Int32).toInt = (-2) := by decide
          exact kk (-2) hh40 (by omega) K41
        · refine xi_cmf (pc' := 10) kc_11_7 rfl (xc_gt_f (X := x2.toInt) (Y := 1) rfl (by decide) (by omega)) ?_
          refine xi_iconst (pc' := 11) (v := 1) kc_11_10 rfl rfl ?_
          refine xi_goto (pc' := 15) kc_11_11 rfl ?_
          refine xi_ireturn kc_11_15 mr_11 rfl ?_
          show xw J ov (d + 2) 61 (24, [(0, .ref 115), (1, .int x1), (2, .int x2), (3, .int x3), (4, .int x4), (5, .int x5)], [.int 1], hh16) _
          refine xi_ift (pc' := 34) kc_61_24 rfl rfl ?_
          refine xi_iconst (pc' := 35) (v := 0) kc_61_34 rfl rfl ?_
          refine xi_istore (pc' := 37) (lv' := [(6, .int 0), (0, .ref 115), (1, .int x1), (2, .int x2), (3, .int x3), (4, .int x4), (5, .int x5)]) kc_61_35 rfl rfl (xm_lt ml_61 rfl) ?_
          have zc0 : (0 : Int32).toInt = 0 := by decide
          refine xw_lv (b := [(0, .ref 115), (1, .int x1), (2, .int x2), (3, .int x3), (4, .int x4), (5, .int x5), (6, .int 0)]) (lvS_cons (lvS_cons (lvS_cons (lvS_cons (lvS_cons (lvS_cons (lvS_cons (lvS_nil (show ([6, 0, 1, 2, 3, 4, 5] : List Nat).Nodup by decide)) rfl) rfl) rfl) rfl) rfl) rfl) rfl) ?_
          exact (lp_61_0 hJ hov1 hov2 (d := d) (hb := hh16) (fun r9 h9 b9 K9 => kk r9 h9 b9 (xk_tr K17 K9 rfl)) 21) x1 x2 x3 x4 x5 0 hh16 (by omega) (by omega) (by omega) (xk_re K17.1) (by omega)
