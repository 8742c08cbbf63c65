set_option maxHeartbeats 4000000 in
theorem lp_keep {J : xe_J} {ov : List (List Int32)} {d : Nat} {Q : Option Value → xe_H → Prop} {h : xe_H} {b1 b2 : Int32} (kk : ∀ (i : Int32) (y : Int64), xw J ov d 157 (44, [(5, .int i), (3, .long y), (0, .ref 75), (1, .int b1), (2, .int b2)], [], h) Q) : ∀ (m : Nat) (i : Int32) (y : Int64), 0 ≤ i.toInt → i.toInt ≤ 64 → 64 ≤ i.toInt + m → xw J ov d 157 (17, [(5, .int i), (3, .long y), (0, .ref 75), (1, .int b1), (2, .int b2)], [], h) Q := by
  intro m
  induction m with
  | zero =>
    intro i y i0 i1 i2
    refine xi_iload (pc' := 19) (x := i) kc_157_17 rfl rfl ?_
    refine xi_bipush (pc' := 21) (v := 64) kc_157_19 rfl rfl ?_
    refine xi_cmt (pc' := 44) kc_157_21 rfl (xc_ge_t (X := i.toInt) (Y := 64) rfl (by decide) (by omega)) ?_
    exact kk i y
  | succ m ih =>
    intro i y i0 i1 i2
    refine xi_iload (pc' := 19) (x := i) kc_157_17 rfl rfl ?_
    refine xi_bipush (pc' := 21) (v := 64) kc_157_19 rfl rfl ?_
    by_cases c1 : 64 ≤ i.toInt
    · refine xi_cmt (pc' := 44) kc_157_21 rfl (xc_ge_t (X := i.toInt) (Y := 64) rfl (by decide) (by omega)) ?_
      exact kk i y
    · refine xi_cmf (pc' := 24) kc_157_21 rfl (xc_ge_f (X := i.toInt) (Y := 64) rfl (by decide) (by omega)) ?_
      refine xi_iload (pc' := 26) (x := i) kc_157_24 rfl rfl ?_
      refine xi_iload_n (pc' := 27) (x := b1) kc_157_26 rfl rfl ?_
      obtain ⟨v2, ev2⟩ : ∃ q : Int32, i &&& b1 = q := ⟨_, rfl⟩
      have rv2 := xc_rng v2
      refine xi_iand (pc' := 28) (v := v2) kc_157_27 rfl ev2 ?_
      by_cases c3 : v2.toInt = 0
      · refine xi_ift (pc' := 38) kc_157_28 rfl (xc_eq_t (X := v2.toInt) (Y := 0) rfl (by decide) (by omega)) ?_
        obtain ⟨v4, ev4⟩ : ∃ q : Int32, i + 1 = q := ⟨_, rfl⟩
        have zv4 : v4.toInt = (i.toInt + 1) := by rw [← ev4]; exact (xz_add (X := i.toInt) (Y := 1) rfl (by decide) (by omega) (by omega)).trans (by omega)
        refine xi_iinc (pc' := 41) (x := i) (v := v4) (lv' := [(5, .int v4), (3, .long y), (0, .ref 75), (1, .int b1), (2, .int b2)]) kc_157_38 rfl rfl ev4 rfl (xm_lt ml_157 rfl) ?_
        refine xi_goto (pc' := 17) kc_157_41 rfl ?_
        exact ih v4 y (by omega) (by omega) (by omega)
      · refine xi_iff (pc' := 31) kc_157_28 rfl (xc_eq_f (X := v2.toInt) (Y := 0) rfl (by decide) (by omega)) ?_
        refine xi_lload_n (pc' := 32) (x := y) kc_157_31 rfl rfl ?_
        refine xi_lconst (pc' := 33) (v := 1) kc_157_32 rfl rfl ?_
        refine xi_iload (pc' := 35) (x := i) kc_157_33 rfl rfl ?_
        obtain ⟨v5, ev5⟩ : ∃ q : Int64, (1 : Int64) <<< ((i : Int32).toInt64 &&& 63) = q := ⟨_, rfl⟩
        refine xi_lshl (pc' := 36) (v := v5) kc_157_35 rfl ev5 ?_
        obtain ⟨v6, ev6⟩ : ∃ q : Int64, (y : Int64) ||| v5 = q := ⟨_, rfl⟩
        refine xi_lor (pc' := 37) (v := v6) kc_157_36 rfl ev6 ?_
        refine xi_lstore_n (pc' := 38) (lv' := [(3, .long v6), (5, .int i), (0, .ref 75), (1, .int b1), (2, .int b2)]) kc_157_37 rfl rfl (xm_lt ml_157 rfl) ?_
        obtain ⟨v7, ev7⟩ : ∃ q : Int32, i + 1 = q := ⟨_, rfl⟩
        have zv7 : v7.toInt = (i.toInt + 1) := by rw [← ev7]; exact (xz_add (X := i.toInt) (Y := 1) rfl (by decide) (by omega) (by omega)).trans (by omega)
        refine xi_iinc (pc' := 41) (x := i) (v := v7) (lv' := [(5, .int v7), (3, .long v6), (0, .ref 75), (1, .int b1), (2, .int b2)]) kc_157_38 rfl rfl ev7 rfl (xm_lt ml_157 rfl) ?_
        refine xi_goto (pc' := 17) kc_157_41 rfl ?_
        exact ih v7 v6 (by omega) (by omega) (by omega)
set_option maxHeartbeats 8000000 in
theorem lc_19 {J : xe_J} {ov : List (List Int32)} (hJ : ∀ d mj as h, mj ≠ xe_loff → J d mj as h = none) {a0 a1 a2 a3 a4 a5 : Int32} (hov0 : ov[0]? = some [a0, a1, a2, a3, a4, a5]) (hov1 : ov[1]? = some [10, 0, 0, 0, 0, 0]) (hov2 : ov[2]? = some [99, 30, 50, 50, 1, 99999]) {h0 : xe_H} (F : xf_fr h0) (hn0 : h0.length ≤ 600002) (hz0 : xe_sz h0 ≤ 7302232) : xw J ov 100 196 (933, [(4, .int 0), (3, .ref 167), (2, .ref 115), (1, .ref 0), (0, .ref 1000000)], [], h0) xf_Q := by
  have rr1 := xc_rng a1
  have rr2 := xc_rng a2
  have rr3 := xc_rng a3
  have rr4 := xc_rng a4
  have rr5 := xc_rng a5
  refine xi_aload_n (pc' := 934) (x := 0) kc_196_933 rfl rfl ?_
  refine xi_aload_n (pc' := 935) (x := 1000000) kc_196_934 rfl rfl ?_
  refine xi_iload (pc' := 937) (x := 0) kc_196_935 rfl rfl ?_
  refine xi_iconst (pc' := 938) (v := 1) kc_196_937 rfl rfl ?_
  refine xi_iadd (pc' := 939) (v := 1) kc_196_938 rfl rfl ?_
  refine xi_ialoadO (pc' := 940) (v := a1) kc_196_939 rfl (by decide) hov0 (xi_in (n := 6) (by decide) (by decide)) rfl ?_
  refine xi_aload_n (pc' := 941) (x := 1000000) kc_196_940 rfl rfl ?_
  refine xi_iload (pc' := 943) (x := 0) kc_196_941 rfl rfl ?_
  refine xi_iconst (pc' := 944) (v := 2) kc_196_943 rfl rfl ?_
  refine xi_iadd (pc' := 945) (v := 2) kc_196_944 rfl rfl ?_
  refine xi_ialoadO (pc' := 946) (v := a2) kc_196_945 rfl (by decide) hov0 (xi_in (n := 6) (by decide) (by decide)) rfl ?_
  refine xi_virtual (mj := 156) (as := [.int a1, .int a2]) (st1 := []) (lv0 := [(0, .ref 0), (1, .int a1), (2, .int a2)]) kc_196_946 rfl rfl rfl rfl rfl (F 0 _ hl_0) (Nat.le_of_ble_eq_true rfl) (hJ _ _ _ _ (by decide)) (xm_le ml_156 rfl) rfl ?_
  refine xi_iload_n (pc' := 1) (x := a1) kc_156_0 rfl rfl ?_
  by_cases c1 : a1.toInt < 0
  · refine xi_ift (pc' := 10) kc_156_1 rfl (xc_lt_t (X := a1.toInt) (Y := 0) rfl (by decide) (by omega)) ?_
    refine xi_aload_n (pc' := 11) (x := 0) kc_156_10 rfl rfl ?_
    refine xi_bipush (pc' := 13) (v := (-2)) kc_156_11 rfl rfl ?_
    refine xi_virtual (mj := 91) (as := [.int (-2)]) (st1 := []) (lv0 := [(0, .ref 0), (1, .int (-2))]) kc_156_13 rfl rfl rfl rfl rfl (F 0 _ hl_0) (Nat.le_of_ble_eq_true rfl) (hJ _ _ _ _ (by decide)) (xm_le ml_91 rfl) rfl ?_
    refine xi_iload_n (pc' := 1) (x := (-2)) kc_91_0 rfl rfl ?_
    refine xi_ineg (pc' := 2) (v := 2) kc_91_1 rfl rfl ?_
    refine xi_istore_n (pc' := 3) (lv' := [(2, .int 2), (0, .ref 0), (1, .int (-2))]) kc_91_2 rfl rfl (xm_lt ml_91 rfl) ?_
    refine xi_iload_n (pc' := 4) (x := 2) kc_91_3 rfl rfl ?_
    refine xi_iff (pc' := 7) kc_91_4 rfl rfl ?_
    refine xi_iload_n (pc' := 8) (x := 2) kc_91_7 rfl rfl ?_
    refine xi_aload_n (pc' := 9) (x := 0) kc_91_8 rfl rfl ?_
    refine xi_getfield (pc' := 12) (v := .ref 94) kc_91_9 rfl rfl rfl (F 0 _ hl_0) rfl ?_
    refine xi_arraylength (pc' := 13) (n := 7) (v := 7) kc_91_12 rfl (xl_lenI (by decide) (by decide) (F 94 _ hl_94) (by simp only [List.length_replicate, List.length_cons, List.length_nil])) rfl ?_
    refine xi_cmf (pc' := 16) kc_91_13 rfl rfl ?_
    refine xi_aload_n (pc' := 17) (x := 0) kc_91_16 rfl rfl ?_
    refine xi_getfield (pc' := 20) (v := .ref 94) kc_91_17 rfl rfl rfl (F 0 _ hl_0) rfl ?_
    refine xi_iload_n (pc' := 21) (x := 2) kc_91_20 rfl rfl ?_
    refine xi_dup2 (pc' := 22) kc_91_21 rfl ⟨rfl, rfl⟩ ?_
    refine xi_iaload (pc' := 23) (v := 0) kc_91_22 rfl (F 94 _ hl_94) (by decide) rfl (xi_in (n := 7) (by decide) (by decide)) rfl ?_
    refine xi_iconst (pc' := 24) (v := 1) kc_91_23 rfl rfl ?_
    refine xi_iadd (pc' := 25) (v := 1) kc_91_24 rfl rfl ?_
    refine xi_iastore (pc' := 26) (x' := [0, 0, 1, 0, 0, 0, 0]) kc_91_25 rfl (F 94 _ hl_94) rfl (xi_in (n := 7) (by decide) (by decide)) rfl (fun hh1 eh1 => ?_)
    refine xi_iload_n (pc' := 27) (x := (-2)) kc_91_26 rfl rfl ?_
    refine xi_ireturn kc_91_27 mr_91 rfl ?_
    show xw J ov 99 156 (16, [(0, .ref 0), (1, .int a1), (2, .int a2)], [.int (-2)], hh1) _
    refine xi_ireturn kc_156_16 mr_156 rfl ?_
    show xw J ov 100 196 (949, [(4, .int 0), (3, .ref 167), (2, .ref 115), (1, .ref 0), (0, .ref 1000000)], [.int (-2)], hh1) _
    refine xi_aload_n (pc' := 950) (x := 115) kc_196_949 rfl rfl ?_
    refine xi_aload_n (pc' := 951) (x := 1000000) kc_196_950 rfl rfl ?_
    refine xi_iload (pc' := 953) (x := 0) kc_196_951 rfl rfl ?_
    refine xi_iconst (pc' := 954) (v := 1) kc_196_953 rfl rfl ?_
    refine xi_iadd (pc' := 955) (v := 1) kc_196_954 rfl rfl ?_
    refine xi_ialoadO (pc' := 956) (v := a1) kc_196_955 rfl (by decide) hov0 (xi_in (n := 6) (by decide) (by decide)) rfl ?_
    refine xi_aload_n (pc' := 957) (x := 1000000) kc_196_956 rfl rfl ?_
    refine xi_iload (pc' := 959) (x := 0) kc_196_957 rfl rfl ?_
    refine xi_iconst (pc' := 960) (v := 2) kc_196_959 rfl rfl ?_
    refine xi_iadd (pc' := 961) (v := 2) kc_196_960 rfl rfl ?_
    refine xi_ialoadO (pc' := 962) (v := a2) kc_196_961 rfl (by decide) hov0 (xi_in (n := 6) (by decide) (by decide)) rfl ?_
    refine xi_virtual (mj := 56) (as := [.int a1, .int a2]) (st1 := [.int (-2)]) (lv0 := [(0, .ref 115), (1, .int a1), (2, .int a2)]) kc_196_962 rfl rfl rfl rfl rfl ((eh1.2.1 115 (by decide)).trans (F 115 _ hl_115)) (Nat.le_of_ble_eq_true rfl) (hJ _ _ _ _ (by decide)) (xm_le ml_56 rfl) rfl ?_
    refine xi_aload_n (pc' := 1) (x := 115) kc_56_0 rfl rfl ?_
    refine xi_iconst (pc' := 2) (v := 0) kc_56_1 rfl rfl ?_
    refine xi_putfield (pc' := 5) (fs' := [.int 0, .int 0, .ref 116, .ref 117, .ref 118, .ref 119, .ref 120, .ref 121, .ref 122, .ref 123, .ref 124, .ref 125, .ref 126, .ref 127, .ref 128, .ref 129, .int 4, .ref 130, .int 0, .ref 131, .ref 132, .ref 133, .ref 134, .int 0, .ref 135, .ref 136, .ref 137, .ref 138, .ref 139, .ref 140, .ref 141, .ref 142, .int 0, .int 0, .int 0, .ref 143, .ref 144, .ref 145, .ref 146, .ref 147, .ref 148, .int 0, .ref 149, .ref 150, .ref 151, .int 0, .ref 152, .ref 153, .ref 154, .ref 155, .ref 156, .ref 157, .ref 158, .ref 159, .int 0, .ref 160, .int 0, .ref 161, .ref 162, .ref 163, .ref 164, .int 0, .ref 165, .ref 166]) kc_56_2 rfl rfl rfl ((eh1.2.1 115 (by decide)).trans (F 115 _ hl_115)) rfl rfl rfl (Nat.le_of_ble_eq_true rfl) rfl (fun hh2 eh2 => ?_)
    refine xi_iload_n (pc' := 6) (x := a1) kc_56_5 rfl rfl ?_
    refine xi_iconst (pc' := 7) (v := 0) kc_56_6 rfl rfl ?_
    refine xi_bipush (pc' := 9) (v := 63) kc_56_7 rfl rfl ?_
    refine xi_static (mj := 12) (as := [.int a1, .int 0, .int 63]) (st1 := []) (lv0 := [(0, .int a1), (1, .int 0), (2, .int 63)]) kc_56_9 rfl rfl (Nat.le_of_ble_eq_true rfl) rfl rfl (Nat.le_of_ble_eq_true rfl) (hJ _ _ _ _ (by decide)) (xm_le ml_12 rfl) rfl ?_
    refine xi_iload_n (pc' := 1) (x := a1) kc_12_0 rfl rfl ?_
    refine xi_iload_n (pc' := 2) (x := 0) kc_12_1 rfl rfl ?_
    refine xi_cmt (pc' := 14) kc_12_2 rfl (xc_lt_t (X := a1.toInt) (Y := 0) rfl (by decide) (by omega)) ?_
    refine xi_iconst (pc' := 15) (v := 0) kc_12_14 rfl rfl ?_
    refine xi_ireturn kc_12_15 mr_12 rfl ?_
    show xw J ov 99 56 (12, [(0, .ref 115), (1, .int a1), (2, .int a2)], [.int 0], hh2) _
    refine xi_iff (pc' := 15) kc_56_12 rfl rfl ?_
    refine xi_aload_n (pc' := 16) (x := 115) kc_56_15 rfl rfl ?_
    refine xi_bipush (pc' := 18) (v := (-2)) kc_56_16 rfl rfl ?_
    refine xi_virtual (mj := 13) (as := [.int (-2)]) (st1 := []) (lv0 := [(0, .ref 115), (1, .int (-2))]) kc_56_18 rfl rfl rfl rfl rfl eh2.1 (Nat.le_of_ble_eq_true rfl) (hJ _ _ _ _ (by decide)) (xm_le ml_13 rfl) rfl ?_
    refine xi_aload_n (pc' := 1) (x := 115) kc_13_0 rfl rfl ?_
    refine xi_getfield (pc' := 4) (v := .ref 140) kc_13_1 rfl rfl rfl eh2.1 rfl ?_
    refine xi_iload_n (pc' := 5) (x := (-2)) kc_13_4 rfl rfl ?_
    refine xi_ineg (pc' := 6) (v := 2) kc_13_5 rfl rfl ?_
    refine xi_dup2 (pc' := 7) kc_13_6 rfl ⟨rfl, rfl⟩ ?_
    refine xi_iaload (pc' := 8) (v := 0) kc_13_7 rfl ((eh2.2.1 140 (by decide)).trans ((eh1.2.1 140 (by decide)).trans (F 140 _ hl_140))) (by decide) rfl (xi_in (n := 7) (by decide) (by decide)) rfl ?_
    refine xi_iconst (pc' := 9) (v := 1) kc_13_8 rfl rfl ?_
    refine xi_iadd (pc' := 10) (v := 1) kc_13_9 rfl rfl ?_
    refine xi_iastore (pc' := 11) (x' := [0, 0, 1, 0, 0, 0, 0]) kc_13_10 rfl ((eh2.2.1 140 (by decide)).trans ((eh1.2.1 140 (by decide)).trans (F 140 _ hl_140))) rfl (xi_in (n := 7) (by decide) (by decide)) rfl (fun hh3 eh3 => ?_)
    refine xi_iload_n (pc' := 12) (x := (-2)) kc_13_11 rfl rfl ?_
    refine xi_ireturn kc_13_12 mr_13 rfl ?_
    show xw J ov 99 56 (21, [(0, .ref 115), (1, .int a1), (2, .int a2)], [.int (-2)], hh3) _
    refine xi_ireturn kc_56_21 mr_56 rfl ?_
    show xw J ov 100 196 (965, [(4, .int 0), (3, .ref 167), (2, .ref 115), (1, .ref 0), (0, .ref 1000000)], [.int (-2), .int (-2)], hh3) _
    refine xi_cmt (pc' := 1528) kc_196_965 rfl rfl ?_
    refine xi_iinc (pc' := 1531) (x := 0) (v := 6) (lv' := [(4, .int 6), (3, .ref 167), (2, .ref 115), (1, .ref 0), (0, .ref 1000000)]) kc_196_1528 rfl rfl rfl rfl (xm_lt ml_196 rfl) ?_
    refine xi_goto (pc' := 23) kc_196_1531 rfl ?_
    refine xi_iload (pc' := 25) (x := 6) kc_196_23 rfl rfl ?_
    refine xi_aload_n (pc' := 26) (x := 1000000) kc_196_25 rfl rfl ?_
    refine xi_arraylength (pc' := 27) (n := 6) (v := 6) kc_196_26 rfl (xl_lenO (by decide) hov0 rfl) rfl ?_
    refine xi_bipush (pc' := 29) (v := 6) kc_196_27 rfl rfl ?_
    refine xi_isub (pc' := 30) (v := 0) kc_196_29 rfl rfl ?_
    refine xi_cmt (pc' := 1534) kc_196_30 rfl rfl ?_
    refine xi_iconst (pc' := 1535) (v := 1) kc_196_1534 rfl rfl ?_
    refine xi_ireturn kc_196_1535 mr_196 rfl ?_
    refine ⟨rfl, ?_, ?_⟩
    · rw [eh3.2.2.1, eh2.2.2.1, eh1.2.2.1]; exact hn0
    · rw [eh3.2.2.2, eh2.2.2.2, eh1.2.2.2]; exact hz0
  · refine xi_iff (pc' := 4) kc_156_1 rfl (xc_lt_f (X := a1.toInt) (Y := 0) rfl (by decide) (by omega)) ?_
    refine xi_iload_n (pc' := 5) (x := a1) kc_156_4 rfl rfl ?_
    refine xi_bipush (pc' := 7) (v := 64) kc_156_5 rfl rfl ?_
    by_cases c2 : a1.toInt < 64
    · refine xi_cmt (pc' := 17) kc_156_7 rfl (xc_lt_t (X := a1.toInt) (Y := 64) rfl (by decide) (by omega)) ?_
      refine xi_iload_n (pc' := 18) (x := a2) kc_156_17 rfl rfl ?_
      refine xi_iconst (pc' := 19) (v := 1) kc_156_18 rfl rfl ?_
      by_cases c3 : 1 ≤ a2.toInt
      · refine xi_cmt (pc' := 29) kc_156_19 rfl (xc_ge_t (X := a2.toInt) (Y := 1) rfl (by decide) (by omega)) ?_
        refine xi_iload_n (pc' := 30) (x := a2) kc_156_29 rfl rfl ?_
        refine xi_sipush (pc' := 33) (v := 999) kc_156_30 rfl rfl ?_
        by_cases c4 : 999 < a2.toInt
        · refine xi_cmt (pc' := 48) kc_156_33 rfl (xc_gt_t (X := a2.toInt) (Y := 999) rfl (by decide) (by omega)) ?_
          refine xi_aload_n (pc' := 49) (x := 0) kc_156_48 rfl rfl ?_
          refine xi_bipush (pc' := 51) (v := (-6)) kc_156_49 rfl rfl ?_
          refine xi_virtual (mj := 91) (as := [.int (-6)]) (st1 := []) (lv0 := [(0, .ref 0), (1, .int (-6))]) kc_156_51 rfl rfl rfl rfl rfl (F 0 _ hl_0) (Nat.le_of_ble_eq_true rfl) (hJ _ _ _ _ (by decide)) (xm_le ml_91 rfl) rfl ?_
          refine xi_iload_n (pc' := 1) (x := (-6)) kc_91_0 rfl rfl ?_
          refine xi_ineg (pc' := 2) (v := 6) kc_91_1 rfl rfl ?_
          refine xi_istore_n (pc' := 3) (lv' := [(2, .int 6), (0, .ref 0), (1, .int (-6))]) kc_91_2 rfl rfl (xm_lt ml_91 rfl) ?_
          refine xi_iload_n (pc' := 4) (x := 6) kc_91_3 rfl rfl ?_
          refine xi_iff (pc' := 7) kc_91_4 rfl rfl ?_
          refine xi_iload_n (pc' := 8) (x := 6) kc_91_7 rfl rfl ?_
          refine xi_aload_n (pc' := 9) (x := 0) kc_91_8 rfl rfl ?_
          refine xi_getfield (pc' := 12) (v := .ref 94) kc_91_9 rfl rfl rfl (F 0 _ hl_0) rfl ?_
          refine xi_arraylength (pc' := 13) (n := 7) (v := 7) kc_91_12 rfl (xl_lenI (by decide) (by decide) (F 94 _ hl_94) (by simp only [List.length_replicate, List.length_cons, List.length_nil])) rfl ?_
          refine xi_cmf (pc' := 16) kc_91_13 rfl rfl ?_
          refine xi_aload_n (pc' := 17) (x := 0) kc_91_16 rfl rfl ?_
          refine xi_getfield (pc' := 20) (v := .ref 94) kc_91_17 rfl rfl rfl (F 0 _ hl_0) rfl ?_
          refine xi_iload_n (pc' := 21) (x := 6) kc_91_20 rfl rfl ?_
          refine xi_dup2 (pc' := 22) kc_91_21 rfl ⟨rfl, rfl⟩ ?_
          refine xi_iaload (pc' := 23) (v := 0) kc_91_22 rfl (F 94 _ hl_94) (by decide) rfl (xi_in (n := 7) (by decide) (by decide)) rfl ?_
          refine xi_iconst (pc' := 24) (v := 1) kc_91_23 rfl rfl ?_
          refine xi_iadd (pc' := 25) (v := 1) kc_91_24 rfl rfl ?_
          refine xi_iastore (pc' := 26) (x' := [0, 0, 0, 0, 0, 0, 1]) kc_91_25 rfl (F 94 _ hl_94) rfl (xi_in (n := 7) (by decide) (by decide)) rfl (fun hh1 eh1 => ?_)
          refine xi_iload_n (pc' := 27) (x := (-6)) kc_91_26 rfl rfl ?_
          refine xi_ireturn kc_91_27 mr_91 rfl ?_
          show xw J ov 99 156 (54, [(0, .ref 0), (1, .int a1), (2, .int a2)], [.int (-6)], hh1) _
          refine xi_ireturn kc_156_54 mr_156 rfl ?_
          show xw J ov 100 196 (949, [(4, .int 0), (3, .ref 167), (2, .ref 115), (1, .ref 0), (0, .ref 1000000)], [.int (-6)], hh1) _
          refine xi_aload_n (pc' := 950) (x := 115) kc_196_949 rfl rfl ?_
          refine xi_aload_n (pc' := 951) (x := 1000000) kc_196_950 rfl rfl ?_
          refine xi_iload (pc' := 953) (x := 0) kc_196_951 rfl rfl ?_
          refine xi_iconst (pc' := 954) (v := 1) kc_196_953 rfl rfl ?_
          refine xi_iadd (pc' := 955) (v := 1) kc_196_954 rfl rfl ?_
          refine xi_ialoadO (pc' := 956) (v := a1) kc_196_955 rfl (by decide) hov0 (xi_in (n := 6) (by decide) (by decide)) rfl ?_
          refine xi_aload_n (pc' := 957) (x := 1000000) kc_196_956 rfl rfl ?_
          refine xi_iload (pc' := 959) (x := 0) kc_196_957 rfl rfl ?_
          refine xi_iconst (pc' := 960) (v := 2) kc_196_959 rfl rfl ?_
          refine xi_iadd (pc' := 961) (v := 2) kc_196_960 rfl rfl ?_
          refine xi_ialoadO (pc' := 962) (v := a2) kc_196_961 rfl (by decide) hov0 (xi_in (n := 6) (by decide) (by decide)) rfl ?_
          refine xi_virtual (mj := 56) (as := [.int a1, .int a2]) (st1 := [.int (-6)]) (lv0 := [(0, .ref 115), (1, .int a1), (2, .int a2)]) kc_196_962 rfl rfl rfl rfl rfl ((eh1.2.1 115 (by decide)).trans (F 115 _ hl_115)) (Nat.le_of_ble_eq_true rfl) (hJ _ _ _ _ (by decide)) (xm_le ml_56 rfl) rfl ?_
          refine xi_aload_n (pc' := 1) (x := 115) kc_56_0 rfl rfl ?_
          refine xi_iconst (pc' := 2) (v := 0) kc_56_1 rfl rfl ?_
          refine xi_putfield (pc' := 5) (fs' := [.int 0, .int 0, .ref 116, .ref 117, .ref 118, .ref 119, .ref 120, .ref 121, .ref 122, .ref 123, .ref 124, .ref 125, .ref 126, .ref 127, .ref 128, .ref 129, .int 4, .ref 130, .int 0, .ref 131, .ref 132, .ref 133, .ref 134, .int 0, .ref 135, .ref 136, .ref 137, .ref 138, .ref 139, .ref 140, .ref 141, .ref 142, .int 0, .int 0, .int 0, .ref 143, .ref 144, .ref 145, .ref 146, .ref 147, .ref 148, .int 0, .ref 149, .ref 150, .ref 151, .int 0, .ref 152, .ref 153, .ref 154, .ref 155, .ref 156, .ref 157, .ref 158, .ref 159, .int 0, .ref 160, .int 0, .ref 161, .ref 162, .ref 163, .ref 164, .int 0, .ref 165, .ref 166]) kc_56_2 rfl rfl rfl ((eh1.2.1 115 (by decide)).trans (F 115 _ hl_115)) rfl rfl rfl (Nat.le_of_ble_eq_true rfl) rfl (fun hh2 eh2 => ?_)
          refine xi_iload_n (pc' := 6) (x := a1) kc_56_5 rfl rfl ?_
          refine xi_iconst (pc' := 7) (v := 0) kc_56_6 rfl rfl ?_
          refine xi_bipush (pc' := 9) (v := 63) kc_56_7 rfl rfl ?_
          refine xi_static (mj := 12) (as := [.int a1, .int 0, .int 63]) (st1 := []) (lv0 := [(0, .int a1), (1, .int 0), (2, .int 63)]) kc_56_9 rfl rfl (Nat.le_of_ble_eq_true rfl) rfl rfl (Nat.le_of_ble_eq_true rfl) (hJ _ _ _ _ (by decide)) (xm_le ml_12 rfl) rfl ?_
          refine xi_iload_n (pc' := 1) (x := a1) kc_12_0 rfl rfl ?_
          refine xi_iload_n (pc' := 2) (x := 0) kc_12_1 rfl rfl ?_
          refine xi_cmf (pc' := 5) kc_12_2 rfl (xc_lt_f (X := a1.toInt) (Y := 0) rfl (by decide) (by omega)) ?_
          refine xi_iload_n (pc' := 6) (x := a1) kc_12_5 rfl rfl ?_
          refine xi_iload_n (pc' := 7) (x := 63) kc_12_6 rfl rfl ?_
          refine xi_cmf (pc' := 10) kc_12_7 rfl (xc_gt_f (X := a1.toInt) (Y := 63) rfl (by decide) (by omega)) ?_
          refine xi_iconst (pc' := 11) (v := 1) kc_12_10 rfl rfl ?_
          refine xi_goto (pc' := 15) kc_12_11 rfl ?_
          refine xi_ireturn kc_12_15 mr_12 rfl ?_
          show xw J ov 99 56 (12, [(0, .ref 115), (1, .int a1), (2, .int a2)], [.int 1], hh2) _
          refine xi_ift (pc' := 22) kc_56_12 rfl rfl ?_
          refine xi_iload_n (pc' := 23) (x := a2) kc_56_22 rfl rfl ?_
          refine xi_iconst (pc' := 24) (v := 1) kc_56_23 rfl rfl ?_
          refine xi_cmt (pc' := 34) kc_56_24 rfl (xc_ge_t (X := a2.toInt) (Y := 1) rfl (by decide) (by omega)) ?_
          refine xi_iload_n (pc' := 35) (x := a2) kc_56_34 rfl rfl ?_
          refine xi_sipush (pc' := 38) (v := 999) kc_56_35 rfl rfl ?_
          refine xi_cmt (pc' := 50) kc_56_38 rfl (xc_gt_t (X := a2.toInt) (Y := 999) rfl (by decide) (by omega)) ?_
          refine xi_aload_n (pc' := 51) (x := 115) kc_56_50 rfl rfl ?_
          refine xi_bipush (pc' := 53) (v := (-6)) kc_56_51 rfl rfl ?_
          refine xi_virtual (mj := 13) (as := [.int (-6)]) (st1 := []) (lv0 := [(0, .ref 115), (1, .int (-6))]) kc_56_53 rfl rfl rfl rfl rfl eh2.1 (Nat.le_of_ble_eq_true rfl) (hJ _ _ _ _ (by decide)) (xm_le ml_13 rfl) rfl ?_
          refine xi_aload_n (pc' := 1) (x := 115) kc_13_0 rfl rfl ?_
          refine xi_getfield (pc' := 4) (v := .ref 140) kc_13_1 rfl rfl rfl eh2.1 rfl ?_
          refine xi_iload_n (pc' := 5) (x := (-6)) kc_13_4 rfl rfl ?_
          refine xi_ineg (pc' := 6) (v := 6) kc_13_5 rfl rfl ?_
          refine xi_dup2 (pc' := 7) kc_13_6 rfl ⟨rfl, rfl⟩ ?_
          refine xi_iaload (pc' := 8) (v := 0) kc_13_7 rfl ((eh2.2.1 140 (by decide)).trans ((eh1.2.1 140 (by decide)).trans (F 140 _ hl_140))) (by decide) rfl (xi_in (n := 7) (by decide) (by decide)) rfl ?_
          refine xi_iconst (pc' := 9) (v := 1) kc_13_8 rfl rfl ?_
          refine xi_iadd (pc' := 10) (v := 1) kc_13_9 rfl rfl ?_
          refine xi_iastore (pc' := 11) (x' := [0, 0, 0, 0, 0, 0, 1]) kc_13_10 rfl ((eh2.2.1 140 (by decide)).trans ((eh1.2.1 140 (by decide)).trans (F 140 _ hl_140))) rfl (xi_in (n := 7) (by decide) (by decide)) rfl (fun hh3 eh3 => ?_)
          refine xi_iload_n (pc' := 12) (x := (-6)) kc_13_11 rfl rfl ?_
          refine xi_ireturn kc_13_12 mr_13 rfl ?_
          show xw J ov 99 56 (56, [(0, .ref 115), (1, .int a1), (2, .int a2)], [.int (-6)], hh3) _
          refine xi_ireturn kc_56_56 mr_56 rfl ?_
          show xw J ov 100 196 (965, [(4, .int 0), (3, .ref 167), (2, .ref 115), (1, .ref 0), (0, .ref 1000000)], [.int (-6), .int (-6)], hh3) _
          refine xi_cmt (pc' := 1528) kc_196_965 rfl rfl ?_
          refine xi_iinc (pc' := 1531) (x := 0) (v := 6) (lv' := [(4, .int 6), (3, .ref 167), (2, .ref 115), (1, .ref 0), (0, .ref 1000000)]) kc_196_1528 rfl rfl rfl rfl (xm_lt ml_196 rfl) ?_
          refine xi_goto (pc' := 23) kc_196_1531 rfl ?_
          refine xi_iload (pc' := 25) (x := 6) kc_196_23 rfl rfl ?_
          refine xi_aload_n (pc' := 26) (x := 1000000) kc_196_25 rfl rfl ?_
          refine xi_arraylength (pc' := 27) (n := 6) (v := 6) kc_196_26 rfl (xl_lenO (by decide) hov0 rfl) rfl ?_
          refine xi_bipush (pc' := 29) (v := 6) kc_196_27 rfl rfl ?_
          refine xi_isub (pc' := 30) (v := 0) kc_196_29 rfl rfl ?_
          refine xi_cmt (pc' := 1534) kc_196_30 rfl rfl ?_
          refine xi_iconst (pc' := 1535) (v := 1) kc_196_1534 rfl rfl ?_
          refine xi_ireturn kc_196_1535 mr_196 rfl ?_
          refine ⟨rfl, ?_, ?_⟩
          · rw [eh3.2.2.1, eh2.2.2.1, eh1.2.2.1]; exact hn0
          · rw [eh3.2.2.2, eh2.2.2.2, eh1.2.2.2]; exact hz0
        · refine xi_cmf (pc' := 36) kc_156_33 rfl (xc_gt_f (X := a2.toInt) (Y := 999) rfl (by decide) (by omega)) ?_
          refine xi_aload_n (pc' := 37) (x := 0) kc_156_36 rfl rfl ?_
          refine xi_getfield (pc' := 40) (v := .ref 75) kc_156_37 rfl rfl rfl (F 0 _ hl_0) rfl ?_
          refine xi_getfield (pc' := 43) (v := .int 0) kc_156_40 rfl rfl rfl (F 75 _ hl_75) rfl ?_
          refine xi_bipush (pc' := 45) (v := 8) kc_156_43 rfl rfl ?_
          refine xi_cmt (pc' := 55) kc_156_45 rfl rfl ?_
          refine xi_aload_n (pc' := 56) (x := 0) kc_156_55 rfl rfl ?_
          refine xi_getfield (pc' := 59) (v := .ref 75) kc_156_56 rfl rfl rfl (F 0 _ hl_0) rfl ?_
          refine xi_iload_n (pc' := 60) (x := a1) kc_156_59 rfl rfl ?_
          refine xi_iload_n (pc' := 61) (x := a2) kc_156_60 rfl rfl ?_
          refine xi_virtual (mj := 157) (as := [.int a1, .int a2]) (st1 := []) (lv0 := [(0, .ref 75), (1, .int a1), (2, .int a2)]) kc_156_61 rfl rfl rfl rfl rfl (F 75 _ hl_75) (Nat.le_of_ble_eq_true rfl) (hJ _ _ _ _ (by decide)) (xm_le ml_157 rfl) rfl ?_
          refine xi_aload_n (pc' := 1) (x := 75) kc_157_0 rfl rfl ?_
          refine xi_getfield (pc' := 4) (v := .int 0) kc_157_1 rfl rfl rfl (F 75 _ hl_75) rfl ?_
          refine xi_bipush (pc' := 6) (v := 8) kc_157_4 rfl rfl ?_
          refine xi_cmt (pc' := 12) kc_157_6 rfl rfl ?_
          refine xi_lconst (pc' := 13) (v := 0) kc_157_12 rfl rfl ?_
          refine xi_lstore_n (pc' := 14) (lv' := [(3, .long 0), (0, .ref 75), (1, .int a1), (2, .int a2)]) kc_157_13 rfl rfl (xm_lt ml_157 rfl) ?_
          refine xi_iconst (pc' := 15) (v := 0) kc_157_14 rfl rfl ?_
          refine xi_istore (pc' := 17) (lv' := [(5, .int 0), (3, .long 0), (0, .ref 75), (1, .int a1), (2, .int a2)]) kc_157_15 rfl rfl (xm_lt ml_157 rfl) ?_
          refine lp_keep (fun ik5 yk5 => ?_) 64 0 0 (by decide) (by decide) (by decide)
          refine xi_aload_n (pc' := 45) (x := 75) kc_157_44 rfl rfl ?_
          refine xi_getfield (pc' := 48) (v := .ref 76) kc_157_45 rfl rfl rfl (F 75 _ hl_75) rfl ?_
          refine xi_aload_n (pc' := 49) (x := 75) kc_157_48 rfl rfl ?_
          refine xi_getfield (pc' := 52) (v := .int 0) kc_157_49 rfl rfl rfl (F 75 _ hl_75) rfl ?_
          refine xi_lload_n (pc' := 53) (x := yk5) kc_157_52 rfl rfl ?_
          refine xi_lastore (pc' := 54) (x' := [yk5, 0, 0, 0, 0, 0, 0, 0]) kc_157_53 rfl (F 76 _ hl_76) rfl (xi_in (n := 8) (by decide) (by decide)) rfl (fun hh1 eh1 => ?_)
          refine xi_aload_n (pc' := 55) (x := 75) kc_157_54 rfl rfl ?_
          refine xi_getfield (pc' := 58) (v := .ref 77) kc_157_55 rfl rfl rfl ((eh1.2.1 75 (by decide)).trans (F 75 _ hl_75)) rfl ?_
          refine xi_aload_n (pc' := 59) (x := 75) kc_157_58 rfl rfl ?_
          refine xi_getfield (pc' := 62) (v := .int 0) kc_157_59 rfl rfl rfl ((eh1.2.1 75 (by decide)).trans (F 75 _ hl_75)) rfl ?_
          refine xi_iload_n (pc' := 63) (x := a2) kc_157_62 rfl rfl ?_
          refine xi_iastore (pc' := 64) (x' := [a2, 0, 0, 0, 0, 0, 0, 0]) kc_157_63 rfl ((eh1.2.1 77 (by decide)).trans (F 77 _ hl_77)) rfl (xi_in (n := 8) (by decide) (by decide)) rfl (fun hh2 eh2 => ?_)
          refine xi_aload_n (pc' := 65) (x := 75) kc_157_64 rfl rfl ?_
          refine xi_dup (pc' := 66) kc_157_65 rfl rfl ?_
          refine xi_getfield (pc' := 69) (v := .int 0) kc_157_66 rfl rfl rfl ((eh2.2.1 75 (by decide)).trans ((eh1.2.1 75 (by decide)).trans (F 75 _ hl_75))) rfl ?_
          refine xi_iconst (pc' := 70) (v := 1) kc_157_69 rfl rfl ?_
          refine xi_iadd (pc' := 71) (v := 1) kc_157_70 rfl rfl ?_
          refine xi_putfield (pc' := 74) (fs' := [.ref 76, .ref 77, .ref 78, .ref 79, .int 1]) kc_157_71 rfl rfl rfl ((eh2.2.1 75 (by decide)).trans ((eh1.2.1 75 (by decide)).trans (F 75 _ hl_75))) rfl rfl rfl (Nat.le_of_ble_eq_true rfl) rfl (fun hh3 eh3 => ?_)
          refine xi_aload_n (pc' := 75) (x := 75) kc_157_74 rfl rfl ?_
          refine xi_getfield (pc' := 78) (v := .int 1) kc_157_75 rfl rfl rfl eh3.1 rfl ?_
          refine xi_iconst (pc' := 79) (v := 1) kc_157_78 rfl rfl ?_
          refine xi_isub (pc' := 80) (v := 0) kc_157_79 rfl rfl ?_
          refine xi_ireturn kc_157_80 mr_157 rfl ?_
          show xw J ov 99 156 (64, [(0, .ref 0), (1, .int a1), (2, .int a2)], [.int 0], hh3) _
          refine xi_ireturn kc_156_64 mr_156 rfl ?_
          show xw J ov 100 196 (949, [(4, .int 0), (3, .ref 167), (2, .ref 115), (1, .ref 0), (0, .ref 1000000)], [.int 0], hh3) _
          refine xi_aload_n (pc' := 950) (x := 115) kc_196_949 rfl rfl ?_
          refine xi_aload_n (pc' := 951) (x := 1000000) kc_196_950 rfl rfl ?_
          refine xi_iload (pc' := 953) (x := 0) kc_196_951 rfl rfl ?_
          refine xi_iconst (pc' := 954) (v := 1) kc_196_953 rfl rfl ?_
          refine xi_iadd (pc' := 955) (v := 1) kc_196_954 rfl rfl ?_
          refine xi_ialoadO (pc' := 956) (v := a1) kc_196_955 rfl (by decide) hov0 (xi_in (n := 6) (by decide) (by decide)) rfl ?_
          refine xi_aload_n (pc' := 957) (x := 1000000) kc_196_956 rfl rfl ?_
          refine xi_iload (pc' := 959) (x := 0) kc_196_957 rfl rfl ?_
          refine xi_iconst (pc' := 960) (v := 2) kc_196_959 rfl rfl ?_
          refine xi_iadd (pc' := 961) (v := 2) kc_196_960 rfl rfl ?_
          refine xi_ialoadO (pc' := 962) (v := a2) kc_196_961 rfl (by decide) hov0 (xi_in (n := 6) (by decide) (by decide)) rfl ?_
          refine xi_virtual (mj := 56) (as := [.int a1, .int a2]) (st1 := [.int 0]) (lv0 := [(0, .ref 115), (1, .int a1), (2, .int a2)]) kc_196_962 rfl rfl rfl rfl rfl ((eh3.2.1 115 (by decide)).trans ((eh2.2.1 115 (by decide)).trans ((eh1.2.1 115 (by decide)).trans (F 115 _ hl_115)))) (Nat.le_of_ble_eq_true rfl) (hJ _ _ _ _ (by decide)) (xm_le ml_56 rfl) rfl ?_
          refine xi_aload_n (pc' := 1) (x := 115) kc_56_0 rfl rfl ?_
          refine xi_iconst (pc' := 2) (v := 0) kc_56_1 rfl rfl ?_
          refine xi_putfield (pc' := 5) (fs' := [.int 0, .int 0, .ref 116, .ref 117, .ref 118, .ref 119, .ref 120, .ref 121, .ref 122, .ref 123, .ref 124, .ref 125, .ref 126, .ref 127, .ref 128, .ref 129, .int 4, .ref 130, .int 0, .ref 131, .ref 132, .ref 133, .ref 134, .int 0, .ref 135, .ref 136, .ref 137, .ref 138, .ref 139, .ref 140, .ref 141, .ref 142, .int 0, .int 0, .int 0, .ref 143, .ref 144, .ref 145, .ref 146, .ref 147, .ref 148, .int 0, .ref 149, .ref 150, .ref 151, .int 0, .ref 152, .ref 153, .ref 154, .ref 155, .ref 156, .ref 157, .ref 158, .ref 159, .int 0, .ref 160, .int 0, .ref 161, .ref 162, .ref 163, .ref 164, .int 0, .ref 165, .ref 166]) kc_56_2 rfl rfl rfl ((eh3.2.1 115 (by decide)).trans ((eh2.2.1 115 (by decide)).trans ((eh1.2.1 115 (by decide)).trans (F 115 _ hl_115)))) rfl rfl rfl (Nat.le_of_ble_eq_true rfl) rfl (fun hh4 eh4 => ?_)
          refine xi_iload_n (pc' := 6) (x := a1) kc_56_5 rfl rfl ?_
          refine xi_iconst (pc' := 7) (v := 0) kc_56_6 rfl rfl ?_
          refine xi_bipush (pc' := 9) (v := 63) kc_56_7 rfl rfl ?_
          refine xi_static (mj := 12) (as := [.int a1, .int 0, .int 63]) (st1 := []) (lv0 := [(0, .int a1), (1, .int 0), (2, .int 63)]) kc_56_9 rfl rfl (Nat.le_of_ble_eq_true rfl) rfl rfl (Nat.le_of_ble_eq_true rfl) (hJ _ _ _ _ (by decide)) (xm_le ml_12 rfl) rfl ?_
          refine xi_iload_n (pc' := 1) (x := a1) kc_12_0 rfl rfl ?_
          refine xi_iload_n (pc' := 2) (x := 0) kc_12_1 rfl rfl ?_
          refine xi_cmf (pc' := 5) kc_12_2 rfl (xc_lt_f (X := a1.toInt) (Y := 0) rfl (by decide) (by omega)) ?_
          refine xi_iload_n (pc' := 6) (x := a1) kc_12_5 rfl rfl ?_
          refine xi_iload_n (pc' := 7) (x := 63) kc_12_6 rfl rfl ?_
          refine xi_cmf (pc' := 10) kc_12_7 rfl (xc_gt_f (X := a1.toInt) (Y := 63) rfl (by decide) (by omega)) ?_
          refine xi_iconst (pc' := 11) (v := 1) kc_12_10 rfl rfl ?_
          refine xi_goto (pc' := 15) kc_12_11 rfl ?_
          refine xi_ireturn kc_12_15 mr_12 rfl ?_
          show xw J ov 99 56 (12, [(0, .ref 115), (1, .int a1), (2, .int a2)], [.int 1], hh4) _
          refine xi_ift (pc' := 22) kc_56_12 rfl rfl ?_
          refine xi_iload_n (pc' := 23) (x := a2) kc_56_22 rfl rfl ?_
          refine xi_iconst (pc' := 24) (v := 1) kc_56_23 rfl rfl ?_
          refine xi_cmt (pc' := 34) kc_56_24 rfl (xc_ge_t (X := a2.toInt) (Y := 1) rfl (by decide) (by omega)) ?_
          refine xi_iload_n (pc' := 35) (x := a2) kc_56_34 rfl rfl ?_
          refine xi_sipush (pc' := 38) (v := 999) kc_56_35 rfl rfl ?_
          refine xi_cmf (pc' := 41) kc_56_38 rfl (xc_gt_f (X := a2.toInt) (Y := 999) rfl (by decide) (by omega)) ?_
          refine xi_aload_n (pc' := 42) (x := 115) kc_56_41 rfl rfl ?_
          refine xi_getfield (pc' := 45) (v := .int 0) kc_56_42 rfl rfl rfl eh4.1 rfl ?_
          refine xi_bipush (pc' := 47) (v := 8) kc_56_45 rfl rfl ?_
          refine xi_cmt (pc' := 57) kc_56_47 rfl rfl ?_
          refine xi_aload_n (pc' := 58) (x := 115) kc_56_57 rfl rfl ?_
          refine xi_getfield (pc' := 61) (v := .ref 152) kc_56_58 rfl rfl rfl eh4.1 rfl ?_
          refine xi_aload_n (pc' := 62) (x := 115) kc_56_61 rfl rfl ?_
          refine xi_getfield (pc' := 65) (v := .int 0) kc_56_62 rfl rfl rfl eh4.1 rfl ?_
          refine xi_iload_n (pc' := 66) (x := a1) kc_56_65 rfl rfl ?_
          refine xi_iastore (pc' := 67) (x' := [a1, 0, 0, 0, 0, 0, 0, 0]) kc_56_66 rfl ((eh4.2.1 152 (by decide)).trans ((eh3.2.1 152 (by decide)).trans ((eh2.2.1 152 (by decide)).trans ((eh1.2.1 152 (by decide)).trans (F 152 _ hl_152))))) rfl (xi_in (n := 8) (by decide) (by decide)) rfl (fun hh5 eh5 => ?_)
          refine xi_aload_n (pc' := 68) (x := 115) kc_56_67 rfl rfl ?_
          refine xi_getfield (pc' := 71) (v := .ref 153) kc_56_68 rfl rfl rfl ((eh5.2.1 115 (by decide)).trans eh4.1) rfl ?_
          refine xi_aload_n (pc' := 72) (x := 115) kc_56_71 rfl rfl ?_
          refine xi_getfield (pc' := 75) (v := .int 0) kc_56_72 rfl rfl rfl ((eh5.2.1 115 (by decide)).trans eh4.1) rfl ?_
          refine xi_iload_n (pc' := 76) (x := a2) kc_56_75 rfl rfl ?_
          refine xi_iastore (pc' := 77) (x' := [a2, 0, 0, 0, 0, 0, 0, 0]) kc_56_76 rfl ((eh5.2.1 153 (by decide)).trans ((eh4.2.1 153 (by decide)).trans ((eh3.2.1 153 (by decide)).trans ((eh2.2.1 153 (by decide)).trans ((eh1.2.1 153 (by decide)).trans (F 153 _ hl_153)))))) rfl (xi_in (n := 8) (by decide) (by decide)) rfl (fun hh6 eh6 => ?_)
          refine xi_aload_n (pc' := 78) (x := 115) kc_56_77 rfl rfl ?_
          refine xi_getfield (pc' := 81) (v := .ref 154) kc_56_78 rfl rfl rfl ((eh6.2.1 115 (by decide)).trans ((eh5.2.1 115 (by decide)).trans eh4.1)) rfl ?_
          refine xi_aload_n (pc' := 82) (x := 115) kc_56_81 rfl rfl ?_
          refine xi_getfield (pc' := 85) (v := .int 0) kc_56_82 rfl rfl rfl ((eh6.2.1 115 (by decide)).trans ((eh5.2.1 115 (by decide)).trans eh4.1)) rfl ?_
          refine xi_iconst (pc' := 86) (v := 0) kc_56_85 rfl rfl ?_
          refine xi_iastore (pc' := 87) (x' := [0, 0, 0, 0, 0, 0, 0, 0]) kc_56_86 rfl ((eh6.2.1 154 (by decide)).trans ((eh5.2.1 154 (by decide)).trans ((eh4.2.1 154 (by decide)).trans ((eh3.2.1 154 (by decide)).trans ((eh2.2.1 154 (by decide)).trans ((eh1.2.1 154 (by decide)).trans (F 154 _ hl_154))))))) rfl (xi_in (n := 8) (by decide) (by decide)) rfl (fun hh7 eh7 => ?_)
          refine xi_aload_n (pc' := 88) (x := 115) kc_56_87 rfl rfl ?_
          refine xi_dup (pc' := 89) kc_56_88 rfl rfl ?_
          refine xi_getfield (pc' := 92) (v := .int 0) kc_56_89 rfl rfl rfl ((eh7.2.1 115 (by decide)).trans ((eh6.2.1 115 (by decide)).trans ((eh5.2.1 115 (by decide)).trans eh4.1))) rfl ?_
          refine xi_iconst (pc' := 93) (v := 1) kc_56_92 rfl rfl ?_
          refine xi_iadd (pc' := 94) (v := 1) kc_56_93 rfl rfl ?_
          refine xi_putfield (pc' := 97) (fs' := [.int 0, .int 0, .ref 116, .ref 117, .ref 118, .ref 119, .ref 120, .ref 121, .ref 122, .ref 123, .ref 124, .ref 125, .ref 126, .ref 127, .ref 128, .ref 129, .int 4, .ref 130, .int 0, .ref 131, .ref 132, .ref 133, .ref 134, .int 0, .ref 135, .ref 136, .ref 137, .ref 138, .ref 139, .ref 140, .ref 141, .ref 142, .int 0, .int 0, .int 0, .ref 143, .ref 144, .ref 145, .ref 146, .ref 147, .ref 148, .int 0, .ref 149, .ref 150, .ref 151, .int 1, .ref 152, .ref 153, .ref 154, .ref 155, .ref 156, .ref 157, .ref 158, .ref 159, .int 0, .ref 160, .int 0, .ref 161, .ref 162, .ref 163, .ref 164, .int 0, .ref 165, .ref 166]) kc_56_94 rfl rfl rfl ((eh7.2.1 115 (by decide)).trans ((eh6.2.1 115 (by decide)).trans ((eh5.2.1 115 (by decide)).trans eh4.1))) rfl rfl rfl (Nat.le_of_ble_eq_true rfl) rfl (fun hh8 eh8 => ?_)
          refine xi_aload_n (pc' := 98) (x := 115) kc_56_97 rfl rfl ?_
          refine xi_getfield (pc' := 101) (v := .int 1) kc_56_98 rfl rfl rfl eh8.1 rfl ?_
          refine xi_iconst (pc' := 102) (v := 1) kc_56_101 rfl rfl ?_
          refine xi_isub (pc' := 103) (v := 0) kc_56_102 rfl rfl ?_
          refine xi_ireturn kc_56_103 mr_56 rfl ?_
          show xw J ov 100 196 (965, [(4, .int 0), (3, .ref 167), (2, .ref 115), (1, .ref 0), (0, .ref 1000000)], [.int 0, .int 0], hh8) _
          refine xi_cmt (pc' := 1528) kc_196_965 rfl rfl ?_
          refine xi_iinc (pc' := 1531) (x := 0) (v := 6) (lv' := [(4, .int 6), (3, .ref 167), (2, .ref 115), (1, .ref 0), (0, .ref 1000000)]) kc_196_1528 rfl rfl rfl rfl (xm_lt ml_196 rfl) ?_
          refine xi_goto (pc' := 23) kc_196_1531 rfl ?_
          refine xi_iload (pc' := 25) (x := 6) kc_196_23 rfl rfl ?_
          refine xi_aload_n (pc' := 26) (x := 1000000) kc_196_25 rfl rfl ?_
          refine xi_arraylength (pc' := 27) (n := 6) (v := 6) kc_196_26 rfl (xl_lenO (by decide) hov0 rfl) rfl ?_
          refine xi_bipush (pc' := 29) (v := 6) kc_196_27 rfl rfl ?_
          refine xi_isub (pc' := 30) (v := 0) kc_196_29 rfl rfl ?_
          refine xi_cmt (pc' := 1534) kc_196_30 rfl rfl ?_
          refine xi_iconst (pc' := 1535) (v := 1) kc_196_1534 rfl rfl ?_
          refine xi_ireturn kc_196_1535 mr_196 rfl ?_
          refine ⟨rfl, ?_, ?_⟩
          · rw [eh8.2.2.1, eh7.2.2.1, eh6.2.2.1, eh5.2.2.1, eh4.2.2.1, eh3.2.2.1, eh2.2.2.1, eh1.2.2.1]; exact hn0
          · rw [eh8.2.2.2, eh7.2.2.2, eh6.2.2.2, eh5.2.2.2, eh4.2.2.2, eh3.2.2.2, eh2.2.2.2, eh1.2.2.2]; exact hz0
      · refine xi_cmf (pc' := 22) kc_156_19 rfl (xc_ge_f (X := a2.toInt) (Y := 1) rfl (by decide) (by omega)) ?_
        refine xi_aload_n (pc' := 23) (x := 0) kc_156_22 rfl rfl ?_
        refine xi_bipush (pc' := 25) (v := (-4)) kc_156_23 rfl rfl ?_
        refine xi_virtual (mj := 91) (as := [.int (-4)]) (st1 := []) (lv0 := [(0, .ref 0), (1, .int (-4))]) kc_156_25 rfl rfl rfl rfl rfl (F 0 _ hl_0) (Nat.le_of_ble_eq_true rfl) (hJ _ _ _ _ (by decide)) (xm_le ml_91 rfl) rfl ?_
        refine xi_iload_n (pc' := 1) (x := (-4)) kc_91_0 rfl rfl ?_
        refine xi_ineg (pc' := 2) (v := 4) kc_91_1 rfl rfl ?_
        refine xi_istore_n (pc' := 3) (lv' := [(2, .int 4), (0, .ref 0), (1, .int (-4))]) kc_91_2 rfl rfl (xm_lt ml_91 rfl) ?_
        refine xi_iload_n (pc' := 4) (x := 4) kc_91_3 rfl rfl ?_
        refine xi_iff (pc' := 7) kc_91_4 rfl rfl ?_
        refine xi_iload_n (pc' := 8) (x := 4) kc_91_7 rfl rfl ?_
        refine xi_aload_n (pc' := 9) (x := 0) kc_91_8 rfl rfl ?_
        refine xi_getfield (pc' := 12) (v := .ref 94) kc_91_9 rfl rfl rfl (F 0 _ hl_0) rfl ?_
        refine xi_arraylength (pc' := 13) (n := 7) (v := 7) kc_91_12 rfl (xl_lenI (by decide) (by decide) (F 94 _ hl_94) (by simp only [List.length_replicate, List.length_cons, List.length_nil])) rfl ?_
        refine xi_cmf (pc' := 16) kc_91_13 rfl rfl ?_
        refine xi_aload_n (pc' := 17) (x := 0) kc_91_16 rfl rfl ?_
        refine xi_getfield (pc' := 20) (v := .ref 94) kc_91_17 rfl rfl rfl (F 0 _ hl_0) rfl ?_
        refine xi_iload_n (pc' := 21) (x := 4) kc_91_20 rfl rfl ?_
        refine xi_dup2 (pc' := 22) kc_91_21 rfl ⟨rfl, rfl⟩ ?_
        refine xi_iaload (pc' := 23) (v := 0) kc_91_22 rfl (F 94 _ hl_94) (by decide) rfl (xi_in (n := 7) (by decide) (by decide)) rfl ?_
        refine xi_iconst (pc' := 24) (v := 1) kc_91_23 rfl rfl ?_
        refine xi_iadd (pc' := 25) (v := 1) kc_91_24 rfl rfl ?_
        refine xi_iastore (pc' := 26) (x' := [0, 0, 0, 0, 1, 0, 0]) kc_91_25 rfl (F 94 _ hl_94) rfl (xi_in (n := 7) (by decide) (by decide)) rfl (fun hh1 eh1 => ?_)
        refine xi_iload_n (pc' := 27) (x := (-4)) kc_91_26 rfl rfl ?_
        refine xi_ireturn kc_91_27 mr_91 rfl ?_
        show xw J ov 99 156 (28, [(0, .ref 0), (1, .int a1), (2, .int a2)], [.int (-4)], hh1) _
        refine xi_ireturn kc_156_28 mr_156 rfl ?_
        show xw J ov 100 196 (949, [(4, .int 0), (3, .ref 167), (2, .ref 115), (1, .ref 0), (0, .ref 1000000)], [.int (-4)], hh1) _
        refine xi_aload_n (pc' := 950) (x := 115) kc_196_949 rfl rfl ?_
        refine xi_aload_n (pc' := 951) (x := 1000000) kc_196_950 rfl rfl ?_
        refine xi_iload (pc' := 953) (x := 0) kc_196_951 rfl rfl ?_
        refine xi_iconst (pc' := 954) (v := 1) kc_196_953 rfl rfl ?_
        refine xi_iadd (pc' := 955) (v := 1) kc_196_954 rfl rfl ?_
        refine xi_ialoadO (pc' := 956) (v := a1) kc_196_955 rfl (by decide) hov0 (xi_in (n := 6) (by decide) (by decide)) rfl ?_
        refine xi_aload_n (pc' := 957) (x := 1000000) kc_196_956 rfl rfl ?_
        refine xi_iload (pc' := 959) (x := 0) kc_196_957 rfl rfl ?_
        refine xi_iconst (pc' := 960) (v := 2) kc_196_959 rfl rfl ?_
        refine xi_iadd (pc' := 961) (v := 2) kc_196_960 rfl rfl ?_
        refine xi_ialoadO (pc' := 962) (v := a2) kc_196_961 rfl (by decide) hov0 (xi_in (n := 6) (by decide) (by decide)) rfl ?_
        refine xi_virtual (mj := 56) (as := [.int a1, .int a2]) (st1 := [.int (-4)]) (lv0 := [(0, .ref 115), (1, .int a1), (2, .int a2)]) kc_196_962 rfl rfl rfl rfl rfl ((eh1.2.1 115 (by decide)).trans (F 115 _ hl_115)) (Nat.le_of_ble_eq_true rfl) (hJ _ _ _ _ (by decide)) (xm_le ml_56 rfl) rfl ?_
        refine xi_aload_n (pc' := 1) (x := 115) kc_56_0 rfl rfl ?_
        refine xi_iconst (pc' := 2) (v := 0) kc_56_1 rfl rfl ?_
        refine xi_putfield (pc' := 5) (fs' := [.int 0, .int 0, .ref 116, .ref 117, .ref 118, .ref 119, .ref 120, .ref 121, .ref 122, .ref 123, .ref 124, .ref 125, .ref 126, .ref 127, .ref 128, .ref 129, .int 4, .ref 130, .int 0, .ref 131, .ref 132, .ref 133, .ref 134, .int 0, .ref 135, .ref 136, .ref 137, .ref 138, .ref 139, .ref 140, .ref 141, .ref 142, .int 0, .int 0, .int 0, .ref 143, .ref 144, .ref 145, .ref 146, .ref 147, .ref 148, .int 0, .ref 149, .ref 150, .ref 151, .int 0, .ref 152, .ref 153, .ref 154, .ref 155, .ref 156, .ref 157, .ref 158, .ref 159, .int 0, .ref 160, .int 0, .ref 161, .ref 162, .ref 163, .ref 164, .int 0, .ref 165, .ref 166]) kc_56_2 rfl rfl rfl ((eh1.2.1 115 (by decide)).trans (F 115 _ hl_115)) rfl rfl rfl (Nat.le_of_ble_eq_true rfl) rfl (fun hh2 eh2 => ?_)
        refine xi_iload_n (pc' := 6) (x := a1) kc_56_5 rfl rfl ?_
        refine xi_iconst (pc' := 7) (v := 0) kc_56_6 rfl rfl ?_
        refine xi_bipush (pc' := 9) (v := 63) kc_56_7 rfl rfl ?_
        refine xi_static (mj := 12) (as := [.int a1, .int 0, .int 63]) (st1 := []) (lv0 := [(0, .int a1), (1, .int 0), (2, .int 63)]) kc_56_9 rfl rfl (Nat.le_of_ble_eq_true rfl) rfl rfl (Nat.le_of_ble_eq_true rfl) (hJ _ _ _ _ (by decide)) (xm_le ml_12 rfl) rfl ?_
        refine xi_iload_n (pc' := 1) (x := a1) kc_12_0 rfl rfl ?_
        refine xi_iload_n (pc' := 2) (x := 0) kc_12_1 rfl rfl ?_
        refine xi_cmf (pc' := 5) kc_12_2 rfl (xc_lt_f (X := a1.toInt) (Y := 0) rfl (by decide) (by omega)) ?_
        refine xi_iload_n (pc' := 6) (x := a1) kc_12_5 rfl rfl ?_
        refine xi_iload_n (pc' := 7) (x := 63) kc_12_6 rfl rfl ?_
        refine xi_cmf (pc' := 10) kc_12_7 rfl (xc_gt_f (X := a1.toInt) (Y := 63) rfl (by decide) (by omega)) ?_
        refine xi_iconst (pc' := 11) (v := 1) kc_12_10 rfl rfl ?_
        refine xi_goto (pc' := 15) kc_12_11 rfl ?_
        refine xi_ireturn kc_12_15 mr_12 rfl ?_
        show xw J ov 99 56 (12, [(0, .ref 115), (1, .int a1), (2, .int a2)], [.int 1], hh2) _
        refine xi_ift (pc' := 22) kc_56_12 rfl rfl ?_
        refine xi_iload_n (pc' := 23) (x := a2) kc_56_22 rfl rfl ?_
        refine xi_iconst (pc' := 24) (v := 1) kc_56_23 rfl rfl ?_
        refine xi_cmf (pc' := 27) kc_56_24 rfl (xc_ge_f (X := a2.toInt) (Y := 1) rfl (by decide) (by omega)) ?_
        refine xi_aload_n (pc' := 28) (x := 115) kc_56_27 rfl rfl ?_
        refine xi_bipush (pc' := 30) (v := (-4)) kc_56_28 rfl rfl ?_
        refine xi_virtual (mj := 13) (as := [.int (-4)]) (st1 := []) (lv0 := [(0, .ref 115), (1, .int (-4))]) kc_56_30 rfl rfl rfl rfl rfl eh2.1 (Nat.le_of_ble_eq_true rfl) (hJ _ _ _ _ (by decide)) (xm_le ml_13 rfl) rfl ?_
        refine xi_aload_n (pc' := 1) (x := 115) kc_13_0 rfl rfl ?_
        refine xi_getfield (pc' := 4) (v := .ref 140) kc_13_1 rfl rfl rfl eh2.1 rfl ?_
        refine xi_iload_n (pc' := 5) (x := (-4)) kc_13_4 rfl rfl ?_
        refine xi_ineg (pc' := 6) (v := 4) kc_13_5 rfl rfl ?_
        refine xi_dup2 (pc' := 7) kc_13_6 rfl ⟨rfl, rfl⟩ ?_
        refine xi_iaload (pc' := 8) (v := 0) kc_13_7 rfl ((eh2.2.1 140 (by decide)).trans ((eh1.2.1 140 (by decide)).trans (F 140 _ hl_140))) (by decide) rfl (xi_in (n := 7) (by decide) (by decide)) rfl ?_
        refine xi_iconst (pc' := 9) (v := 1) kc_13_8 rfl rfl ?_
        refine xi_iadd (pc' := 10) (v := 1) kc_13_9 rfl rfl ?_
        refine xi_iastore (pc' := 11) (x' := [0, 0, 0, 0, 1, 0, 0]) kc_13_10 rfl ((eh2.2.1 140 (by decide)).trans ((eh1.2.1 140 (by decide)).trans (F 140 _ hl_140))) rfl (xi_in (n := 7) (by decide) (by decide)) rfl (fun hh3 eh3 => ?_)
        refine xi_iload_n (pc' := 12) (x := (-4)) kc_13_11 rfl rfl ?_
        refine xi_ireturn kc_13_12 mr_13 rfl ?_
        show xw J ov 99 56 (33, [(0, .ref 115), (1, .int a1), (2, .int a2)], [.int (-4)], hh3) _
        refine xi_ireturn kc_56_33 mr_56 rfl ?_
        show xw J ov 100 196 (965, [(4, .int 0), (3, .ref 167), (2, .ref 115), (1, .ref 0), (0, .ref 1000000)], [.int (-4), .int (-4)], hh3) _
        refine xi_cmt (pc' := 1528) kc_196_965 rfl rfl ?_
        refine xi_iinc (pc' := 1531) (x := 0) (v := 6) (lv' := [(4, .int 6), (3, .ref 167), (2, .ref 115), (1, .ref 0), (0, .ref 1000000)]) kc_196_1528 rfl rfl rfl rfl (xm_lt ml_196 rfl) ?_
        refine xi_goto (pc' := 23) kc_196_1531 rfl ?_
        refine xi_iload (pc' := 25) (x := 6) kc_196_23 rfl rfl ?_
        refine xi_aload_n (pc' := 26) (x := 1000000) kc_196_25 rfl rfl ?_
        refine xi_arraylength (pc' := 27) (n := 6) (v := 6) kc_196_26 rfl (xl_lenO (by decide) hov0 rfl) rfl ?_
        refine xi_bipush (pc' := 29) (v := 6) kc_196_27 rfl rfl ?_
        refine xi_isub (pc' := 30) (v := 0) kc_196_29 rfl rfl ?_
        refine xi_cmt (pc' := 1534) kc_196_30 rfl rfl ?_
        refine xi_iconst (pc' := 1535) (v := 1) kc_196_1534 rfl rfl ?_
        refine xi_ireturn kc_196_1535 mr_196 rfl ?_
        refine ⟨rfl, ?_, ?_⟩
        · rw [eh3.2.2.1, eh2.2.2.1, eh1.2.2.1]; exact hn0
        · rw [eh3.2.2.2, eh2.2.2.2, eh1.2.2.2]; exact hz0
    · refine xi_cmf (pc' := 10) kc_156_7 rfl (xc_lt_f (X := a1.toInt) (Y := 64) rfl (by decide) (by omega)) ?_
      refine xi_aload_n (pc' := 11) (x := 0) kc_156_10 rfl rfl ?_
      refine xi_bipush (pc' := 13) (v := (-2)) kc_156_11 rfl rfl ?_
      refine xi_virtual (mj := 91) (as := [.int (-2)]) (st1 := []) (lv0 := [(0, .ref 0), (1, .int (-2))]) kc_156_13 rfl rfl rfl rfl rfl (F 0 _ hl_0) (Nat.le_of_ble_eq_true rfl) (hJ _ _ _ _ (by decide)) (xm_le ml_91 rfl) rfl ?_
      refine xi_iload_n (pc' := 1) (x := (-2)) kc_91_0 rfl rfl ?_
      refine xi_ineg (pc' := 2) (v := 2) kc_91_1 rfl rfl ?_
      refine xi_istore_n (pc' := 3) (lv' := [(2, .int 2), (0, .ref 0), (1, .int (-2))]) kc_91_2 rfl rfl (xm_lt ml_91 rfl) ?_
      refine xi_iload_n (pc' := 4) (x := 2) kc_91_3 rfl rfl ?_
      refine xi_iff (pc' := 7) kc_91_4 rfl rfl ?_
      refine xi_iload_n (pc' := 8) (x := 2) kc_91_7 rfl rfl ?_
      refine xi_aload_n (pc' := 9) (x := 0) kc_91_8 rfl rfl ?_
      refine xi_getfield (pc' := 12) (v := .ref 94) kc_91_9 rfl rfl rfl (F 0 _ hl_0) rfl ?_
      refine xi_arraylength (pc' := 13) (n := 7) (v := 7) kc_91_12 rfl (xl_lenI (by decide) (by decide) (F 94 _ hl_94) (by simp only [List.length_replicate, List.length_cons, List.length_nil])) rfl ?_
      refine xi_cmf (pc' := 16) kc_91_13 rfl rfl ?_
      refine xi_aload_n (pc' := 17) (x := 0) kc_91_16 rfl rfl ?_
      refine xi_getfield (pc' := 20) (v := .ref 94) kc_91_17 rfl rfl rfl (F 0 _ hl_0) rfl ?_
      refine xi_iload_n (pc' := 21) (x := 2) kc_91_20 rfl rfl ?_
      refine xi_dup2 (pc' := 22) kc_91_21 rfl ⟨rfl, rfl⟩ ?_
      refine xi_iaload (pc' := 23) (v := 0) kc_91_22 rfl (F 94 _ hl_94) (by decide) rfl (xi_in (n := 7) (by decide) (by decide)) rfl ?_
      refine xi_iconst (pc' := 24) (v := 1) kc_91_23 rfl rfl ?_
      refine xi_iadd (pc' := 25) (v := 1) kc_91_24 rfl rfl ?_
      refine xi_iastore (pc' := 26) (x' := [0, 0, 1, 0, 0, 0, 0]) kc_91_25 rfl (F 94 _ hl_94) rfl (xi_in (n := 7) (by decide) (by decide)) rfl (fun hh1 eh1 => ?_)
      refine xi_iload_n (pc' := 27) (x := (-2)) kc_91_26 rfl rfl ?_
      refine xi_ireturn kc_91_27 mr_91 rfl ?_
      show xw J ov 99 156 (16, [(0, .ref 0), (1, .int a1), (2, .int a2)], [.int (-2)], hh1) _
      refine xi_ireturn kc_156_16 mr_156 rfl ?_
      show xw J ov 100 196 (949, [(4, .int 0), (3, .ref 167), (2, .ref 115), (1, .ref 0), (0, .ref 1000000)], [.int (-2)], hh1) _
      refine xi_aload_n (pc' := 950) (x := 115) kc_196_949 rfl rfl ?_
      refine xi_aload_n (pc' := 951) (x := 1000000) kc_196_950 rfl rfl ?_
      refine xi_iload (pc' := 953) (x := 0) kc_196_951 rfl rfl ?_
      refine xi_iconst (pc' := 954) (v := 1) kc_196_953 rfl rfl ?_
      refine xi_iadd (pc' := 955) (v := 1) kc_196_954 rfl rfl ?_
      refine xi_ialoadO (pc' := 956) (v := a1) kc_196_955 rfl (by decide) hov0 (xi_in (n := 6) (by decide) (by decide)) rfl ?_
      refine xi_aload_n (pc' := 957) (x := 1000000) kc_196_956 rfl rfl ?_
      refine xi_iload (pc' := 959) (x := 0) kc_196_957 rfl rfl ?_
      refine xi_iconst (pc' := 960) (v := 2) kc_196_959 rfl rfl ?_
      refine xi_iadd (pc' := 961) (v := 2) kc_196_960 rfl rfl ?_
      refine xi_ialoadO (pc' := 962) (v := a2) kc_196_961 rfl (by decide) hov0 (xi_in (n := 6) (by decide) (by decide)) rfl ?_
      refine xi_virtual (mj := 56) (as := [.int a1, .int a2]) (st1 := [.int (-2)]) (lv0 := [(0, .ref 115), (1, .int a1), (2, .int a2)]) kc_196_962 rfl rfl rfl rfl rfl ((eh1.2.1 115 (by decide)).trans (F 115 _ hl_115)) (Nat.le_of_ble_eq_true rfl) (hJ _ _ _ _ (by decide)) (xm_le ml_56 rfl) rfl ?_
      refine xi_aload_n (pc' := 1) (x := 115) kc_56_0 rfl rfl ?_
      refine xi_iconst (pc' := 2) (v := 0) kc_56_1 rfl rfl ?_
      refine xi_putfield (pc' := 5) (fs' := [.int 0, .int 0, .ref 116, .ref 117, .ref 118, .ref 119, .ref 120, .ref 121, .ref 122, .ref 123, .ref 124, .ref 125, .ref 126, .ref 127, .ref 128, .ref 129, .int 4, .ref 130, .int 0, .ref 131, .ref 132, .ref 133, .ref 134, .int 0, .ref 135, .ref 136, .ref 137, .ref 138, .ref 139, .ref 140, .ref 141, .ref 142, .int 0, .int 0, .int 0, .ref 143, .ref 144, .ref 145, .ref 146, .ref 147, .ref 148, .int 0, .ref 149, .ref 150, .ref 151, .int 0, .ref 152, .ref 153, .ref 154, .ref 155, .ref 156, .ref 157, .ref 158, .ref 159, .int 0, .ref 160, .int 0, .ref 161, .ref 162, .ref 163, .ref 164, .int 0, .ref 165, .ref 166]) kc_56_2 rfl rfl rfl ((eh1.2.1 115 (by decide)).trans (F 115 _ hl_115)) rfl rfl rfl (Nat.le_of_ble_eq_true rfl) rfl (fun hh2 eh2 => ?_)
      refine xi_iload_n (pc' := 6) (x := a1) kc_56_5 rfl rfl ?_
      refine xi_iconst (pc' := 7) (v := 0) kc_56_6 rfl rfl ?_
      refine xi_bipush (pc' := 9) (v := 63) kc_56_7 rfl rfl ?_
      refine xi_static (mj := 12) (as := [.int a1, .int 0, .int 63]) (st1 := []) (lv0 := [(0, .int a1), (1, .int 0), (2, .int 63)]) kc_56_9 rfl rfl (Nat.le_of_ble_eq_true rfl) rfl rfl (Nat.le_of_ble_eq_true rfl) (hJ _ _ _ _ (by decide)) (xm_le ml_12 rfl) rfl ?_
      refine xi_iload_n (pc' := 1) (x := a1) kc_12_0 rfl rfl ?_
      refine xi_iload_n (pc' := 2) (x := 0) kc_12_1 rfl rfl ?_
      refine xi_cmf (pc' := 5) kc_12_2 rfl (xc_lt_f (X := a1.toInt) (Y := 0) rfl (by decide) (by omega)) ?_
      refine xi_iload_n (pc' := 6) (x := a1) kc_12_5 rfl rfl ?_
      refine xi_iload_n (pc' := 7) (x := 63) kc_12_6 rfl rfl ?_
      refine xi_cmt (pc' := 14) kc_12_7 rfl (xc_gt_t (X := a1.toInt) (Y := 63) rfl (by decide) (by omega)) ?_
      refine xi_iconst (pc' := 15) (v := 0) kc_12_14 rfl rfl ?_
      refine xi_ireturn kc_12_15 mr_12 rfl ?_
      show xw J ov 99 56 (12, [(0, .ref 115), (1, .int a1), (2, .int a2)], [.int 0], hh2) _
      refine xi_iff (pc' := 15) kc_56_12 rfl rfl ?_
      refine xi_aload_n (pc' := 16) (x := 115) kc_56_15 rfl rfl ?_
      refine xi_bipush (pc' := 18) (v := (-2)) kc_56_16 rfl rfl ?_
      refine xi_virtual (mj := 13) (as := [.int (-2)]) (st1 := []) (lv0 := [(0, .ref 115), (1, .int (-2))]) kc_56_18 rfl rfl rfl rfl rfl eh2.1 (Nat.le_of_ble_eq_true rfl) (hJ _ _ _ _ (by decide)) (xm_le ml_13 rfl) rfl ?_
      refine xi_aload_n (pc' := 1) (x := 115) kc_13_0 rfl rfl ?_
      refine xi_getfield (pc' := 4) (v := .ref 140) kc_13_1 rfl rfl rfl eh2.1 rfl ?_
      refine xi_iload_n (pc' := 5) (x := (-2)) kc_13_4 rfl rfl ?_
      refine xi_ineg (pc' := 6) (v := 2) kc_13_5 rfl rfl ?_
      refine xi_dup2 (pc' := 7) kc_13_6 rfl ⟨rfl, rfl⟩ ?_
      refine xi_iaload (pc' := 8) (v := 0) kc_13_7 rfl ((eh2.2.1 140 (by decide)).trans ((eh1.2.1 140 (by decide)).trans (F 140 _ hl_140))) (by decide) rfl (xi_in (n := 7) (by decide) (by decide)) rfl ?_
      refine xi_iconst (pc' := 9) (v := 1) kc_13_8 rfl rfl ?_
      refine xi_iadd (pc' := 10) (v := 1) kc_13_9 rfl rfl ?_
      refine xi_iastore (pc' := 11) (x' := [0, 0, 1, 0, 0, 0, 0]) kc_13_10 rfl ((eh2.2.1 140 (by decide)).trans ((eh1.2.1 140 (by decide)).trans (F 140 _ hl_140))) rfl (xi_in (n := 7) (by decide) (by decide)) rfl (fun hh3 eh3 => ?_)
      refine xi_iload_n (pc' := 12) (x := (-2)) kc_13_11 rfl rfl ?_
      refine xi_ireturn kc_13_12 mr_13 rfl ?_
      show xw J ov 99 56 (21, [(0, .ref 115), (1, .int a1), (2, .int a2)], [.int (-2)], hh3) _
      refine xi_ireturn kc_56_21 mr_56 rfl ?_
      show xw J ov 100 196 (965, [(4, .int 0), (3, .ref 167), (2, .ref 115), (1, .ref 0), (0, .ref 1000000)], [.int (-2), .int (-2)], hh3) _
      refine xi_cmt (pc' := 1528) kc_196_965 rfl rfl ?_
      refine xi_iinc (pc' := 1531) (x := 0) (v := 6) (lv' := [(4, .int 6), (3, .ref 167), (2, .ref 115), (1, .ref 0), (0, .ref 1000000)]) kc_196_1528 rfl rfl rfl rfl (xm_lt ml_196 rfl) ?_
      refine xi_goto (pc' := 23) kc_196_1531 rfl ?_
      refine xi_iload (pc' := 25) (x := 6) kc_196_23 rfl rfl ?_
      refine xi_aload_n (pc' := 26) (x := 1000000) kc_196_25 rfl rfl ?_
      refine xi_arraylength (pc' := 27) (n := 6) (v := 6) kc_196_26 rfl (xl_lenO (by decide) hov0 rfl) rfl ?_
      refine xi_bipush (pc' := 29) (v := 6) kc_196_27 rfl rfl ?_
      refine xi_isub (pc' := 30) (v := 0) kc_196_29 rfl rfl ?_
      refine xi_cmt (pc' := 1534) kc_196_30 rfl rfl ?_
      refine xi_iconst (pc' := 1535) (v := 1) kc_196_1534 rfl rfl ?_
      refine xi_ireturn kc_196_1535 mr_196 rfl ?_
      refine ⟨rfl, ?_, ?_⟩
      · rw [eh3.2.2.1, eh2.2.2.1, eh1.2.2.1]; exact hn0
      · rw [eh3.2.2.2, eh2.2.2.2, eh1.2.2.2]; exact hz0
