def xf_Z (r : Option Value) (h : xe_H) : Prop := r = some (.int 1) ∧ h.length ≤ 601024 ∧ xe_sz h ≤ 7293034
set_option maxHeartbeats 8000000 in
theorem lw_loop {J : xe_J} {ov : List (List Int32)} (hJ : ∀ d mj as h, mj ≠ xe_loff → J d mj as h = none) (hov1 : ov[1]? = some [10, 0, 0, 0, 0, 0]) (hov2 : ov[2]? = some [99, 30, 50, 50, 1, 99999]) {xs : List Int32} (hov0 : ov[0]? = some xs) (hL : xs.length ≤ 3072) (hoff : ∀ (v : Int32) (h : xe_H), xt h → h.length < xe_o → ∃ (r : Int32) (h' : xe_H), J 99 194 [.ref 0, .int v, .ref 167] h = some (some (.int r), h') ∧ xt h' ∧ (∀ l : Nat × Nat, List.elem l [(29, 0), (31, 0), (33, 0), (35, 0), (37, 0), (39, 0), (41, 0), (43, 0), (45, 0), (47, 0), (49, 0), (51, 0), (125, 0), (0, 9), (115, 1), (66, 8), (115, 18), (71, 0), (132, 0)] = true → xl h' l = xl h l) ∧ h'.length ≤ h.length + 1 ∧ xe_sz h' ≤ xe_sz h + 6) : ∀ (m : Nat) (x4 : Int32) (h : xe_H), 0 ≤ x4.toInt → x4.toInt ≤ 3072 → xt h → xI h → 6 * (h.length : Int) ≤ 1008 + x4.toInt → (xe_sz h : Int) ≤ 34365 + x4.toInt → 3072 - x4.toInt < (m : Int) → xw J ov 100 195 (23, [(4, .int x4), (3, .ref 167), (2, .ref 115), (1, .ref 0), (0, .ref 1000000)], [], h) xf_Z := by
  intro m
  induction m with
  | zero => intros; exfalso; omega
  | succ m ih =>
    intro x4 h hi0 hi9 T I hn hz hm
    have zL : (nI xs.length).toInt = (xs.length : Int) := nI_toInt (by omega)
    refine xi_iload (pc' := 25) (x := x4) kc_195_23 rfl rfl ?_
    refine xi_aload_n (pc' := 26) (x := 1000000) kc_195_25 rfl rfl ?_
    refine xi_arraylength (pc' := 27) (n := xs.length) (v := nI xs.length) kc_195_26 rfl (xl_lenO (by decide) hov0 rfl) rfl ?_
    refine xi_bipush (pc' := 29) (v := 6) kc_195_27 rfl rfl ?_
    obtain ⟨v1, e1⟩ : ∃ q : Int32, nI xs.length - 6 = q := ⟨_, rfl⟩
    have z1 : v1.toInt = (xs.length : Int) - 6 := by rw [← e1]; exact xz_sub (X := (xs.length : Int)) (Y := 6) zL (by decide) (by omega) (by omega)
    refine xi_isub (pc' := 30) (v := v1) kc_195_29 rfl e1 ?_
    by_cases c1 : (xs.length : Int) - 6 < x4.toInt
    · refine xi_cmt (pc' := 1507) kc_195_30 rfl (xc_gt_t (X := x4.toInt) (Y := (xs.length : Int) - 6) rfl z1 (by omega)) ?_
      refine xi_iconst (pc' := 1508) (v := 1) kc_195_1507 rfl rfl ?_
      refine xi_ireturn kc_195_1508 mr_195 rfl ?_
      refine ⟨rfl, ?_, ?_⟩
      · show h.length ≤ 601024; omega
      · show xe_sz h ≤ 7293034; omega
    · refine xi_cmf (pc' := 33) kc_195_30 rfl (xc_gt_f (X := x4.toInt) (Y := (xs.length : Int) - 6) rfl z1 (by omega)) ?_
      refine xi_aload_n (pc' := 34) (x := 1000000) kc_195_33 rfl rfl ?_
      refine xi_iload (pc' := 36) (x := x4) kc_195_34 rfl rfl ?_
      obtain ⟨a0, ea0⟩ : ∃ q : Int32, xs.getD (Int32.toNatClampNeg x4) 0 = q := ⟨_, rfl⟩
      refine xi_ialoadO (pc' := 37) (v := a0) kc_195_36 rfl (by decide) hov0 (xi_in (by omega) (by omega)) ea0 ?_
      refine xi_bipush (pc' := 39) (v := 63) kc_195_37 rfl rfl ?_
      obtain ⟨v2, e2⟩ : ∃ q : Int32, a0 &&& 63 = q := ⟨_, rfl⟩
      refine xi_iand (pc' := 40) (v := v2) kc_195_39 rfl e2 ?_
      have cont : ∀ (i : Int32) (h' : xe_H), i.toInt = x4.toInt + 6 → xt h' → xI h' → h'.length ≤ h.length + 1 → xe_sz h' ≤ xe_sz h + 6 → xw J ov 100 195 (23, [(4, .int i), (3, .ref 167), (2, .ref 115), (1, .ref 0), (0, .ref 1000000)], [], h') xf_Z := fun i h' hi T' I' hl' hz' => ih i h' (by omega) (by omega) T' I' (by omega) (by omega) (by omega)
      by_cases d0 : v2.toInt = 0
      · refine xi_tsi (pc' := 192) (z := 0) kc_195_40 (by omega) rfl (by decide) ?_
        exact lc_0 hJ hov1 hov2 hov0 hi0 (by omega) (by omega) T (fun i h' hi K => cont i h' hi K.1 (xI_kept I K.2.1) (by rw [K.2.2.1]; omega) (by rw [K.2.2.2]; omega))
      by_cases d1 : v2.toInt = 1
      · refine xi_tsi (pc' := 241) (z := 1) kc_195_40 (by omega) rfl (by decide) ?_
        exact lc_1 hJ hov1 hov2 hov0 hi0 (by omega) (by omega) T (fun i h' hi K => cont i h' hi K.1 (xI_kept I K.2.1) (by rw [K.2.2.1]; omega) (by rw [K.2.2.2]; omega))
      by_cases d2 : v2.toInt = 2
      · refine xi_tsi (pc' := 290) (z := 2) kc_195_40 (by omega) rfl (by decide) ?_
        exact lc_2 hJ hov1 hov2 hov0 hi0 (by omega) (by omega) T (fun i h' hi K => cont i h' hi K.1 (xI_kept I K.2.1) (by rw [K.2.2.1]; omega) (by rw [K.2.2.2]; omega))
      by_cases d3 : v2.toInt = 3
      · refine xi_tsi (pc' := 339) (z := 3) kc_195_40 (by omega) rfl (by decide) ?_
        exact lc_3 hJ hov1 hov2 hov0 hi0 (by omega) (by omega) T (fun i h' hi K => cont i h' hi K.1 (xI_kept I K.2.1) (by rw [K.2.2.1]; omega) (by rw [K.2.2.2]; omega))
      by_cases d4 : v2.toInt = 4
      · refine xi_tsi (pc' := 376) (z := 4) kc_195_40 (by omega) rfl (by decide) ?_
        exact lc_4 hJ hov1 hov2 hov0 hi0 (by omega) (by omega) T (fun i h' hi K => cont i h' hi K.1 (xI_kept I K.2.1) (by rw [K.2.2.1]; omega) (by rw [K.2.2.2]; omega))
      by_cases d5 : v2.toInt = 5
      · refine xi_tsi (pc' := 401) (z := 5) kc_195_40 (by omega) rfl (by decide) ?_
        exact lc_5 hJ hov1 hov2 hov0 hi0 (by omega) (by omega) T I (fun i h' hi K I' => cont i h' hi K.1 I' (by rw [K.2.2.1]; omega) (by rw [K.2.2.2]; omega))
      by_cases d6 : v2.toInt = 6
      · refine xi_tsi (pc' := 478) (z := 6) kc_195_40 (by omega) rfl (by decide) ?_
        exact lc_6 hJ hov1 hov2 hov0 hi0 (by omega) (by omega) T (fun i h' hi K => cont i h' hi K.1 (xI_kept I K.2.1) (by rw [K.2.2.1]; omega) (by rw [K.2.2.2]; omega))
      by_cases d7 : v2.toInt = 7
      · refine xi_tsi (pc' := 515) (z := 7) kc_195_40 (by omega) rfl (by decide) ?_
        exact lc_7 hJ hov1 hov2 hov0 hi0 (by omega) (by omega) T (fun i h' hi K => cont i h' hi K.1 (xI_kept I K.2.1) (by rw [K.2.2.1]; omega) (by rw [K.2.2.2]; omega))
      by_cases d8 : v2.toInt = 8
      · refine xi_tsi (pc' := 540) (z := 8) kc_195_40 (by omega) rfl (by decide) ?_
        exact lc_8 hJ hov1 hov2 hov0 hi0 (by omega) (by omega) T (fun i h' hi K => cont i h' hi K.1 (xI_kept I K.2.1) (by rw [K.2.2.1]; omega) (by rw [K.2.2.2]; omega))
      by_cases d9 : v2.toInt = 9
      · refine xi_tsi (pc' := 565) (z := 9) kc_195_40 (by omega) rfl (by decide) ?_
        exact lc_9 hJ hov1 hov2 hov0 hi0 (by omega) (by omega) T (fun i h' hi K => cont i h' hi K.1 (xI_kept I K.2.1) (by rw [K.2.2.1]; omega) (by rw [K.2.2.2]; omega))
      by_cases d10 : v2.toInt = 10
      · refine xi_tsi (pc' := 590) (z := 10) kc_195_40 (by omega) rfl (by decide) ?_
        exact lc_10 hJ hov1 hov2 hov0 hi0 (by omega) (by omega) T I (fun i h' hi K I' => cont i h' hi K.1 I' (by rw [K.2.2.1]; omega) (by rw [K.2.2.2]; omega))
      by_cases d11 : v2.toInt = 11
      · refine xi_tsi (pc' := 651) (z := 11) kc_195_40 (by omega) rfl (by decide) ?_
        exact lc_11 hJ hov1 hov2 hov0 hi0 (by omega) (by omega) T (fun i h' hi K => cont i h' hi K.1 (xI_kept I K.2.1) (by rw [K.2.2.1]; omega) (by rw [K.2.2.2]; omega))
      by_cases d12 : v2.toInt = 12
      · refine xi_tsi (pc' := 712) (z := 12) kc_195_40 (by omega) rfl (by decide) ?_
        exact lc_12 hJ hov1 hov2 hov0 hi0 (by omega) (by omega) T (fun i h' hi K => cont i h' hi K.1 (xI_kept I K.2.1) (by rw [K.2.2.1]; omega) (by rw [K.2.2.2]; omega))
      by_cases d13 : v2.toInt = 13
      · refine xi_tsi (pc' := 765) (z := 13) kc_195_40 (by omega) rfl (by decide) ?_
        exact lc_13 hJ hov1 hov2 hov0 hi0 (by omega) (by omega) T I (fun i h' hi K I' => cont i h' hi K.1 I' (by rw [K.2.2.1]; omega) (by rw [K.2.2.2]; omega))
      by_cases d14 : v2.toInt = 14
      · refine xi_tsi (pc' := 790) (z := 14) kc_195_40 (by omega) rfl (by decide) ?_
        exact lc_14 hJ hov1 hov2 hov0 hoff hi0 (by omega) (by omega) T (by show h.length < 1000000; omega) (fun i h' hi T' F' hl' hz' => cont i h' hi T' (xI_kept I F') hl' hz')
      by_cases d15 : v2.toInt = 15
      · refine xi_tsi (pc' := 818) (z := 15) kc_195_40 (by omega) rfl (by decide) ?_
        exact lc_15 hJ hov1 hov2 hov0 hi0 (by omega) (by omega) T (fun i h' hi K => cont i h' hi K.1 (xI_kept I K.2.1) (by rw [K.2.2.1]; omega) (by rw [K.2.2.2]; omega))
      by_cases d16 : v2.toInt = 16
      · refine xi_tsi (pc' := 855) (z := 16) kc_195_40 (by omega) rfl (by decide) ?_
        exact lc_16 hJ hov1 hov2 hov0 hi0 (by omega) (by omega) T (fun i h' hi K => cont i h' hi K.1 (xI_kept I K.2.1) (by rw [K.2.2.1]; omega) (by rw [K.2.2.2]; omega))
      by_cases d17 : v2.toInt = 17
      · refine xi_tsi (pc' := 868) (z := 17) kc_195_40 (by omega) rfl (by decide) ?_
        exact lc_17 hJ hov1 hov2 hov0 hi0 (by omega) (by omega) T (fun i h' hi K => cont i h' hi K.1 (xI_kept I K.2.1) (by rw [K.2.2.1]; omega) (by rw [K.2.2.2]; omega))
      by_cases d18 : v2.toInt = 18
      · refine xi_tsi (pc' := 893) (z := 18) kc_195_40 (by omega) rfl (by decide) ?_
        exact lc_18 hJ hov1 hov2 hov0 hi0 (by omega) (by omega) T (fun i h' hi K => cont i h' hi K.1 (xI_kept I K.2.1) (by rw [K.2.2.1]; omega) (by rw [K.2.2.2]; omega))
      by_cases d19 : v2.toInt = 19
      · refine xi_tsi (pc' := 906) (z := 19) kc_195_40 (by omega) rfl (by decide) ?_
        exact lc_19 hJ hov1 hov2 hov0 hi0 (by omega) (by omega) T (fun i h' hi K => cont i h' hi K.1 (xI_kept I K.2.1) (by rw [K.2.2.1]; omega) (by rw [K.2.2.2]; omega))
      by_cases d20 : v2.toInt = 20
      · refine xi_tsi (pc' := 943) (z := 20) kc_195_40 (by omega) rfl (by decide) ?_
        exact lc_20 hJ hov1 hov2 hov0 hi0 (by omega) (by omega) T (fun i h' hi K => cont i h' hi K.1 (xI_kept I K.2.1) (by rw [K.2.2.1]; omega) (by rw [K.2.2.2]; omega))
      by_cases d21 : v2.toInt = 21
      · refine xi_tsi (pc' := 996) (z := 21) kc_195_40 (by omega) rfl (by decide) ?_
        exact lc_21 hJ hov1 hov2 hov0 hi0 (by omega) (by omega) T (fun i h' hi K => cont i h' hi K.1 (xI_kept I K.2.1) (by rw [K.2.2.1]; omega) (by rw [K.2.2.2]; omega))
      by_cases d22 : v2.toInt = 22
      · refine xi_tsi (pc' := 1009) (z := 22) kc_195_40 (by omega) rfl (by decide) ?_
        exact lc_22 hJ hov1 hov2 hov0 hi0 (by omega) (by omega) T (fun i h' hi K => cont i h' hi K.1 (xI_kept I K.2.1) (by rw [K.2.2.1]; omega) (by rw [K.2.2.2]; omega))
      by_cases d23 : v2.toInt = 23
      · refine xi_tsi (pc' := 1022) (z := 23) kc_195_40 (by omega) rfl (by decide) ?_
        exact lc_23 hJ hov1 hov2 hov0 hi0 (by omega) (by omega) T (fun i h' hi K => cont i h' hi K.1 (xI_kept I K.2.1) (by rw [K.2.2.1]; omega) (by rw [K.2.2.2]; omega))
      by_cases d24 : v2.toInt = 24
      · refine xi_tsi (pc' := 1095) (z := 24) kc_195_40 (by omega) rfl (by decide) ?_
        exact lc_24 hJ hov1 hov2 hov0 hi0 (by omega) (by omega) T (fun i h' hi K => cont i h' hi K.1 (xI_kept I K.2.1) (by rw [K.2.2.1]; omega) (by rw [K.2.2.2]; omega))
      by_cases d25 : v2.toInt = 25
      · refine xi_tsi (pc' := 1132) (z := 25) kc_195_40 (by omega) rfl (by decide) ?_
        exact lc_25 hJ hov1 hov2 hov0 hi0 (by omega) (by omega) T (fun i h' hi K => cont i h' hi K.1 (xI_kept I K.2.1) (by rw [K.2.2.1]; omega) (by rw [K.2.2.2]; omega))
      by_cases d26 : v2.toInt = 26
      · refine xi_tsi (pc' := 1193) (z := 26) kc_195_40 (by omega) rfl (by decide) ?_
        exact lc_26 hJ hov1 hov2 hov0 hi0 (by omega) (by omega) T (fun i h' hi K => cont i h' hi K.1 (xI_kept I K.2.1) (by rw [K.2.2.1]; omega) (by rw [K.2.2.2]; omega))
      by_cases d27 : v2.toInt = 27
      · refine xi_tsi (pc' := 1206) (z := 27) kc_195_40 (by omega) rfl (by decide) ?_
        exact lc_27 hJ hov1 hov2 hov0 hi0 (by omega) (by omega) T (fun i h' hi K => cont i h' hi K.1 (xI_kept I K.2.1) (by rw [K.2.2.1]; omega) (by rw [K.2.2.2]; omega))
      by_cases d28 : v2.toInt = 28
      · refine xi_tsi (pc' := 1231) (z := 28) kc_195_40 (by omega) rfl (by decide) ?_
        exact lc_28 hJ hov1 hov2 hov0 hi0 (by omega) (by omega) T (fun i h' hi K => cont i h' hi K.1 (xI_kept I K.2.1) (by rw [K.2.2.1]; omega) (by rw [K.2.2.2]; omega))
      by_cases d29 : v2.toInt = 29
      · refine xi_tsi (pc' := 1292) (z := 29) kc_195_40 (by omega) rfl (by decide) ?_
        exact lc_29 hJ hov1 hov2 hov0 hi0 (by omega) (by omega) T (fun i h' hi K => cont i h' hi K.1 (xI_kept I K.2.1) (by rw [K.2.2.1]; omega) (by rw [K.2.2.2]; omega))
      by_cases d30 : v2.toInt = 30
      · refine xi_tsi (pc' := 1333) (z := 30) kc_195_40 (by omega) rfl (by decide) ?_
        exact lc_30 hJ hov1 hov2 hov0 hi0 (by omega) (by omega) T (fun i h' hi K => cont i h' hi K.1 (xI_kept I K.2.1) (by rw [K.2.2.1]; omega) (by rw [K.2.2.2]; omega))
      by_cases d31 : v2.toInt = 31
      · refine xi_tsi (pc' := 1414) (z := 31) kc_195_40 (by omega) rfl (by decide) ?_
        exact lc_31 hJ hov1 hov2 hov0 hi0 (by omega) (by omega) T (fun i h' hi K => cont i h' hi K.1 (xI_kept I K.2.1) (by rw [K.2.2.1]; omega) (by rw [K.2.2.2]; omega))
      by_cases d32 : v2.toInt = 32
      · refine xi_tsi (pc' := 1451) (z := 32) kc_195_40 (by omega) rfl (by decide) ?_
        exact lc_32 hJ hov1 hov2 hov0 hi0 (by omega) (by omega) T (fun i h' hi K => cont i h' hi K.1 (xI_kept I K.2.1) (by rw [K.2.2.1]; omega) (by rw [K.2.2.2]; omega))
      by_cases d33 : v2.toInt = 33
      · refine xi_tsi (pc' := 1476) (z := 33) kc_195_40 (by omega) rfl (by decide) ?_
        exact lc_33 hJ hov1 hov2 hov0 hi0 (by omega) (by omega) T (fun i h' hi K => cont i h' hi K.1 (xI_kept I K.2.1) (by rw [K.2.2.1]; omega) (by rw [K.2.2.2]; omega))
      refine xi_tsd (pc' := 1501) kc_195_40 rfl (by omega) ?_
      exact lc_d hJ hov1 hov2 hov0 hi0 (by omega) (by omega) T (fun i h' hi K => cont i h' hi K.1 (xI_kept I K.2.1) (by rw [K.2.2.1]; omega) (by rw [K.2.2.2]; omega))
