set_option maxHeartbeats 4000000 in
theorem lp_weather {J : xe_J} {ov : List (List Int32)} {d : Nat} (hJ : ∀ d mj as h, mj ≠ xe_loff → J d mj as h = none) {Q : Option Value → xe_H → Prop} {h0 : xe_H}  (E115 : h0[115]? = some (.inr (12, [.int 0, .int 0, .ref 116, .ref 117, .ref 118, .ref 119, .ref 120, .ref 121, .ref 122, .ref 123, .ref 124, .ref 125, .ref 126, .ref 127, .ref 128, .ref 129, .int 4, .ref 130, .int 0, .ref 131, .ref 132, .ref 133, .ref 134, .int 0, .ref 135, .ref 136, .ref 137, .ref 138, .ref 139, .ref 140, .ref 141, .ref 142, .int 0, .int 0, .int 0, .ref 143, .ref 144, .ref 145, .ref 146, .ref 147, .ref 148, .int 1, .ref 149, .ref 150, .ref 151, .int 0, .ref 152, .ref 153, .ref 154, .ref 155, .ref 156, .ref 157, .ref 158, .ref 159, .int 0, .ref 160, .int 0, .ref 161, .ref 162, .ref 163, .ref 164, .int 0, .ref 165, .ref 166]))) (E123 : h0[123]? = some (.inl (0, .inl (List.replicate 600 99)))) (E124 : h0[124]? = some (.inl (0, .inl (List.replicate 600 99)))) (kk : ∀ (y z : List Int32) (h1 : xe_H), y.length = 600 → z.length = 600 → xh2 h0 150 (.inl (0, .inl y)) 151 (.inl (0, .inl z)) h1 → Q (none) h1) : ∀ (m : Nat) (i : Int32) (y z : List Int32) (h : xe_H), 0 ≤ i.toInt → i.toInt ≤ 600 → 600 ≤ i.toInt + m → y.length = 600 → z.length = 600 → xh2 h0 150 (.inl (0, .inl y)) 151 (.inl (0, .inl z)) h → xw J ov (d) 45 (6, [(3, .int i), (2, .int 0), (1, .int 5), (0, .ref 115)], [], h) Q := by
  intro m
  induction m with
  | zero =>
    intro i y z h i0 i1 i2 hy hz e
    refine xi_iload_n (pc' := 7) (x := i) kc_45_6 rfl rfl ?_
    refine xi_sipush (pc' := 10) (v := 600) kc_45_7 rfl rfl ?_
    refine xi_cmt (pc' := 77) kc_45_10 rfl (xc_ge_t (X := i.toInt) (Y := 600) rfl (by decide) (by omega)) ?_
    refine xi_return kc_45_77 mr_45 ?_
    exact kk y z h hy hz ⟨e.1, e.2.1, fun j ja jb => (e.2.2.1 j ja jb), e.2.2.2.1, e.2.2.2.2⟩
  | succ m ih =>
    intro i y z h i0 i1 i2 hy hz e
    refine xi_iload_n (pc' := 7) (x := i) kc_45_6 rfl rfl ?_
    refine xi_sipush (pc' := 10) (v := 600) kc_45_7 rfl rfl ?_
    by_cases c1 : 600 ≤ i.toInt
    · refine xi_cmt (pc' := 77) kc_45_10 rfl (xc_ge_t (X := i.toInt) (Y := 600) rfl (by decide) (by omega)) ?_
      refine xi_return kc_45_77 mr_45 ?_
      exact kk y z h hy hz ⟨e.1, e.2.1, fun j ja jb => (e.2.2.1 j ja jb), e.2.2.2.1, e.2.2.2.2⟩
    · refine xi_cmf (pc' := 13) kc_45_10 rfl (xc_ge_f (X := i.toInt) (Y := 600) rfl (by decide) (by omega)) ?_
      refine xi_aload_n (pc' := 14) (x := 115) kc_45_13 rfl rfl ?_
      refine xi_getfield (pc' := 17) (v := .ref 123) kc_45_14 rfl rfl rfl ((e.2.2.1 115 (by decide) (by decide)).trans E115) rfl ?_
      refine xi_iload_n (pc' := 18) (x := i) kc_45_17 rfl rfl ?_
      refine xi_iaload (pc' := 19) (v := 99) kc_45_18 rfl ((e.2.2.1 123 (by decide) (by decide)).trans E123) (by decide) rfl (xi_in (by omega) (by simp only [List.length_replicate]; omega)) (xa_rep (by omega) (by omega)) ?_
      refine xi_bipush (pc' := 21) (v := 99) kc_45_19 rfl rfl ?_
      refine xi_cmf (pc' := 24) kc_45_21 rfl rfl ?_
      refine xi_iload_n (pc' := 25) (x := 5) kc_45_24 rfl rfl ?_
      refine xi_goto (pc' := 34) kc_45_25 rfl ?_
      refine xi_istore_n (pc' := 35) (lv' := [(1, .int 5), (3, .int i), (2, .int 0), (0, .ref 115)]) kc_45_34 rfl rfl (xm_lt ml_45 rfl) ?_
      refine xi_aload_n (pc' := 36) (x := 115) kc_45_35 rfl rfl ?_
      refine xi_getfield (pc' := 39) (v := .ref 124) kc_45_36 rfl rfl rfl ((e.2.2.1 115 (by decide) (by decide)).trans E115) rfl ?_
      refine xi_iload_n (pc' := 40) (x := i) kc_45_39 rfl rfl ?_
      refine xi_iaload (pc' := 41) (v := 99) kc_45_40 rfl ((e.2.2.1 124 (by decide) (by decide)).trans E124) (by decide) rfl (xi_in (by omega) (by simp only [List.length_replicate]; omega)) (xa_rep (by omega) (by omega)) ?_
      refine xi_bipush (pc' := 43) (v := 99) kc_45_41 rfl rfl ?_
      refine xi_cmf (pc' := 46) kc_45_43 rfl rfl ?_
      refine xi_iload_n (pc' := 47) (x := 0) kc_45_46 rfl rfl ?_
      refine xi_goto (pc' := 56) kc_45_47 rfl ?_
      refine xi_istore_n (pc' := 57) (lv' := [(2, .int 0), (1, .int 5), (3, .int i), (0, .ref 115)]) kc_45_56 rfl rfl (xm_lt ml_45 rfl) ?_
      refine xi_aload_n (pc' := 58) (x := 115) kc_45_57 rfl rfl ?_
      refine xi_getfield (pc' := 61) (v := .ref 150) kc_45_58 rfl rfl rfl ((e.2.2.1 115 (by decide) (by decide)).trans E115) rfl ?_
      refine xi_iload_n (pc' := 62) (x := i) kc_45_61 rfl rfl ?_
      refine xi_iload_n (pc' := 63) (x := 5) kc_45_62 rfl rfl ?_
      obtain ⟨x2, hx2⟩ : ∃ q, (y : List Int32).set (Int32.toNatClampNeg i) (5) = q := ⟨_, rfl⟩
      have lx2 : x2.length = 600 := by rw [← hx2, List.length_set]; exact hy
      refine xi_iastore (pc' := 64) (x' := x2) kc_45_63 rfl e.1 rfl (xi_in (by omega) (by rw [hy]; omega)) hx2 (fun hh1 eh1 => ?_)
      refine xi_aload_n (pc' := 65) (x := 115) kc_45_64 rfl rfl ?_
      refine xi_getfield (pc' := 68) (v := .ref 151) kc_45_65 rfl rfl rfl ((eh1.2.1 115 (by decide)).trans ((e.2.2.1 115 (by decide) (by decide)).trans E115)) rfl ?_
      refine xi_iload_n (pc' := 69) (x := i) kc_45_68 rfl rfl ?_
      refine xi_iload_n (pc' := 70) (x := 0) kc_45_69 rfl rfl ?_
      obtain ⟨x3, hx3⟩ : ∃ q, (z : List Int32).set (Int32.toNatClampNeg i) (0) = q := ⟨_, rfl⟩
      have lx3 : x3.length = 600 := by rw [← hx3, List.length_set]; exact hz
      refine xi_iastore (pc' := 71) (x' := x3) kc_45_70 rfl ((eh1.2.1 151 (by decide)).trans e.2.1) rfl (xi_in (by omega) (by rw [hz]; omega)) hx3 (fun hh2 eh2 => ?_)
      obtain ⟨v4, ev4⟩ : ∃ q : Int32, i + 1 = q := ⟨_, rfl⟩
      have zv4 : v4.toInt = (i.toInt + 1) := by rw [← ev4]; exact (xz_add (X := i.toInt) (Y := 1) rfl (by decide) (by omega) (by omega)).trans (by omega)
      refine xi_iinc (pc' := 74) (x := i) (v := v4) (lv' := [(3, .int v4), (2, .int 0), (1, .int 5), (0, .ref 115)]) kc_45_71 rfl rfl ev4 rfl (xm_lt ml_45 rfl) ?_
      refine xi_goto (pc' := 6) kc_45_74 rfl ?_
      exact ih v4 x2 x3 hh2 (by omega) (by omega) (by omega) lx2 lx3 ⟨((eh2.2.1 150 (by decide)).trans eh1.1), eh2.1, fun j ja jb => ((eh2.2.1 j jb).trans ((eh1.2.1 j ja).trans (e.2.2.1 j ja jb))), (eh2.2.2.1.trans (eh1.2.2.1.trans e.2.2.2.1)), (eh2.2.2.2.trans (eh1.2.2.2.trans e.2.2.2.2))⟩
set_option maxHeartbeats 4000000 in
theorem lp_tell_cold {J : xe_J} {ov : List (List Int32)} {d : Nat} (hJ : ∀ d mj as h, mj ≠ xe_loff → J d mj as h = none) {Q : Option Value → xe_H → Prop} {h0 : xe_H} {hr v : Int32} (E5 : h0[5]? = some (.inr (8, [.int 5, .ref 6, .ref 7]))) (kk : ∀ (y z : List Int32) (h1 : xe_H), y.length = 601 → z.length = 601 → xh2 h0 6 (.inl (0, .inl y)) 7 (.inl (0, .inl z)) h1 → Q (some (.int 99)) h1) : ∀ (m : Nat) (i la : Int32) (y z : List Int32) (h : xe_H), 0 ≤ i.toInt → i.toInt ≤ 601 → 601 ≤ i.toInt + m → y.length = 601 → z.length = 601 → xh2 h0 6 (.inl (0, .inl y)) 7 (.inl (0, .inl z)) h → xw J ov (d) 99 (42, [(5, .int i), (4, .int la), (3, .int 99), (0, .ref 5), (1, .int hr), (2, .int v)], [], h) Q := by
  intro m
  induction m with
  | zero =>
    intro i la y z h i0 i1 i2 hy hz e
    refine xi_iload (pc' := 44) (x := i) kc_99_42 rfl rfl ?_
    refine xi_aload_n (pc' := 45) (x := 5) kc_99_44 rfl rfl ?_
    refine xi_getfield (pc' := 48) (v := .ref 6) kc_99_45 rfl rfl rfl ((e.2.2.1 5 (by decide) (by decide)).trans E5) rfl ?_
    refine xi_arraylength (pc' := 49) (n := 601) (v := 601) kc_99_48 rfl (xl_lenI (by decide) (by decide) e.1 hy) rfl ?_
    refine xi_cmt (pc' := 88) kc_99_49 rfl (xc_ge_t (X := i.toInt) (Y := 601) rfl (by decide) (by omega)) ?_
    refine xi_iload_n (pc' := 89) (x := 99) kc_99_88 rfl rfl ?_
    refine xi_ireturn kc_99_89 mr_99 rfl ?_
    exact kk y z h hy hz ⟨e.1, e.2.1, fun j ja jb => (e.2.2.1 j ja jb), e.2.2.2.1, e.2.2.2.2⟩
  | succ m ih =>
    intro i la y z h i0 i1 i2 hy hz e
    refine xi_iload (pc' := 44) (x := i) kc_99_42 rfl rfl ?_
    refine xi_aload_n (pc' := 45) (x := 5) kc_99_44 rfl rfl ?_
    refine xi_getfield (pc' := 48) (v := .ref 6) kc_99_45 rfl rfl rfl ((e.2.2.1 5 (by decide) (by decide)).trans E5) rfl ?_
    refine xi_arraylength (pc' := 49) (n := 601) (v := 601) kc_99_48 rfl (xl_lenI (by decide) (by decide) e.1 hy) rfl ?_
    by_cases c1 : 601 ≤ i.toInt
    · refine xi_cmt (pc' := 88) kc_99_49 rfl (xc_ge_t (X := i.toInt) (Y := 601) rfl (by decide) (by omega)) ?_
      refine xi_iload_n (pc' := 89) (x := 99) kc_99_88 rfl rfl ?_
      refine xi_ireturn kc_99_89 mr_99 rfl ?_
      exact kk y z h hy hz ⟨e.1, e.2.1, fun j ja jb => (e.2.2.1 j ja jb), e.2.2.2.1, e.2.2.2.2⟩
    · refine xi_cmf (pc' := 52) kc_99_49 rfl (xc_ge_f (X := i.toInt) (Y := 601) rfl (by decide) (by omega)) ?_
      refine xi_aload_n (pc' := 53) (x := 5) kc_99_52 rfl rfl ?_
      refine xi_getfield (pc' := 56) (v := .ref 6) kc_99_53 rfl rfl rfl ((e.2.2.1 5 (by decide) (by decide)).trans E5) rfl ?_
      refine xi_iload (pc' := 58) (x := i) kc_99_56 rfl rfl ?_
      obtain ⟨v2, ev2⟩ : ∃ q : Int32, y.getD (Int32.toNatClampNeg i) 0 = q := ⟨_, rfl⟩
      have rv2 := xc_rng v2
      refine xi_iaload (pc' := 59) (v := v2) kc_99_58 rfl e.1 (by decide) rfl (xi_in (by omega) (by rw [hy]; omega)) ev2 ?_
      refine xi_bipush (pc' := 61) (v := 99) kc_99_59 rfl rfl ?_
      by_cases c3 : v2.toInt = 99
      · refine xi_cmt (pc' := 73) kc_99_61 rfl (xc_eq_t (X := v2.toInt) (Y := 99) rfl (by decide) (by omega)) ?_
        refine xi_aload_n (pc' := 74) (x := 5) kc_99_73 rfl rfl ?_
        refine xi_getfield (pc' := 77) (v := .ref 7) kc_99_74 rfl rfl rfl ((e.2.2.1 5 (by decide) (by decide)).trans E5) rfl ?_
        refine xi_iload (pc' := 79) (x := i) kc_99_77 rfl rfl ?_
        refine xi_iload (pc' := 81) (x := la) kc_99_79 rfl rfl ?_
        obtain ⟨x4, hx4⟩ : ∃ q, (z : List Int32).set (Int32.toNatClampNeg i) (la) = q := ⟨_, rfl⟩
        have lx4 : x4.length = 601 := by rw [← hx4, List.length_set]; exact hz
        refine xi_iastore (pc' := 82) (x' := x4) kc_99_81 rfl e.2.1 rfl (xi_in (by omega) (by rw [hz]; omega)) hx4 (fun hh1 eh1 => ?_)
        obtain ⟨v5, ev5⟩ : ∃ q : Int32, i + 1 = q := ⟨_, rfl⟩
        have zv5 : v5.toInt = (i.toInt + 1) := by rw [← ev5]; exact (xz_add (X := i.toInt) (Y := 1) rfl (by decide) (by omega) (by omega)).trans (by omega)
        refine xi_iinc (pc' := 85) (x := i) (v := v5) (lv' := [(5, .int v5), (4, .int la), (3, .int 99), (0, .ref 5), (1, .int hr), (2, .int v)]) kc_99_82 rfl rfl ev5 rfl (xm_lt ml_99 rfl) ?_
        refine xi_goto (pc' := 42) kc_99_85 rfl ?_
        exact ih v5 la y x4 hh1 (by omega) (by omega) (by omega) hy lx4 ⟨((eh1.2.1 6 (by decide)).trans e.1), eh1.1, fun j ja jb => ((eh1.2.1 j jb).trans (e.2.2.1 j ja jb)), (eh1.2.2.1.trans e.2.2.2.1), (eh1.2.2.2.trans e.2.2.2.2)⟩
      · refine xi_cmf (pc' := 64) kc_99_61 rfl (xc_eq_f (X := v2.toInt) (Y := 99) rfl (by decide) (by omega)) ?_
        refine xi_aload_n (pc' := 65) (x := 5) kc_99_64 rfl rfl ?_
        refine xi_getfield (pc' := 68) (v := .ref 6) kc_99_65 rfl rfl rfl ((e.2.2.1 5 (by decide) (by decide)).trans E5) rfl ?_
        refine xi_iload (pc' := 70) (x := i) kc_99_68 rfl rfl ?_
        obtain ⟨v6, ev6⟩ : ∃ q : Int32, y.getD (Int32.toNatClampNeg i) 0 = q := ⟨_, rfl⟩
        have rv6 := xc_rng v6
        refine xi_iaload (pc' := 71) (v := v6) kc_99_70 rfl e.1 (by decide) rfl (xi_in (by omega) (by rw [hy]; omega)) ev6 ?_
        refine xi_istore (pc' := 73) (lv' := [(4, .int v6), (5, .int i), (3, .int 99), (0, .ref 5), (1, .int hr), (2, .int v)]) kc_99_71 rfl rfl (xm_lt ml_99 rfl) ?_
        refine xi_aload_n (pc' := 74) (x := 5) kc_99_73 rfl rfl ?_
        refine xi_getfield (pc' := 77) (v := .ref 7) kc_99_74 rfl rfl rfl ((e.2.2.1 5 (by decide) (by decide)).trans E5) rfl ?_
        refine xi_iload (pc' := 79) (x := i) kc_99_77 rfl rfl ?_
        refine xi_iload (pc' := 81) (x := v6) kc_99_79 rfl rfl ?_
        obtain ⟨x7, hx7⟩ : ∃ q, (z : List Int32).set (Int32.toNatClampNeg i) (v6) = q := ⟨_, rfl⟩
        have lx7 : x7.length = 601 := by rw [← hx7, List.length_set]; exact hz
        refine xi_iastore (pc' := 82) (x' := x7) kc_99_81 rfl e.2.1 rfl (xi_in (by omega) (by rw [hz]; omega)) hx7 (fun hh1 eh1 => ?_)
        obtain ⟨v8, ev8⟩ : ∃ q : Int32, i + 1 = q := ⟨_, rfl⟩
        have zv8 : v8.toInt = (i.toInt + 1) := by rw [← ev8]; exact (xz_add (X := i.toInt) (Y := 1) rfl (by decide) (by omega) (by omega)).trans (by omega)
        refine xi_iinc (pc' := 85) (x := i) (v := v8) (lv' := [(5, .int v8), (4, .int v6), (3, .int 99), (0, .ref 5), (1, .int hr), (2, .int v)]) kc_99_82 rfl rfl ev8 rfl (xm_lt ml_99 rfl) ?_
        refine xi_goto (pc' := 42) kc_99_85 rfl ?_
        exact ih v8 v6 y x7 hh1 (by omega) (by omega) (by omega) hy lx7 ⟨((eh1.2.1 6 (by decide)).trans e.1), eh1.1, fun j ja jb => ((eh1.2.1 j jb).trans (e.2.2.1 j ja jb)), (eh1.2.2.1.trans e.2.2.2.1), (eh1.2.2.2.trans e.2.2.2.2)⟩
set_option maxHeartbeats 4000000 in
theorem lp_tell_rain {J : xe_J} {ov : List (List Int32)} {d : Nat} (hJ : ∀ d mj as h, mj ≠ xe_loff → J d mj as h = none) {Q : Option Value → xe_H → Prop} {h0 : xe_H} {hr v : Int32} (E8 : h0[8]? = some (.inr (8, [.int 0, .ref 9, .ref 10]))) (kk : ∀ (y z : List Int32) (h1 : xe_H), y.length = 601 → z.length = 601 → xh2 h0 9 (.inl (0, .inl y)) 10 (.inl (0, .inl z)) h1 → Q (some (.int 99)) h1) : ∀ (m : Nat) (i la : Int32) (y z : List Int32) (h : xe_H), 0 ≤ i.toInt → i.toInt ≤ 601 → 601 ≤ i.toInt + m → y.length = 601 → z.length = 601 → xh2 h0 9 (.inl (0, .inl y)) 10 (.inl (0, .inl z)) h → xw J ov (d) 99 (42, [(5, .int i), (4, .int la), (3, .int 99), (0, .ref 8), (1, .int hr), (2, .int v)], [], h) Q := by
  intro m
  induction m with
  | zero =>
    intro i la y z h i0 i1 i2 hy hz e
    refine xi_iload (pc' := 44) (x := i) kc_99_42 rfl rfl ?_
    refine xi_aload_n (pc' := 45) (x := 8) kc_99_44 rfl rfl ?_
    refine xi_getfield (pc' := 48) (v := .ref 9) kc_99_45 rfl rfl rfl ((e.2.2.1 8 (by decide) (by decide)).trans E8) rfl ?_
    refine xi_arraylength (pc' := 49) (n := 601) (v := 601) kc_99_48 rfl (xl_lenI (by decide) (by decide) e.1 hy) rfl ?_
    refine xi_cmt (pc' := 88) kc_99_49 rfl (xc_ge_t (X := i.toInt) (Y := 601) rfl (by decide) (by omega)) ?_
    refine xi_iload_n (pc' := 89) (x := 99) kc_99_88 rfl rfl ?_
    refine xi_ireturn kc_99_89 mr_99 rfl ?_
    exact kk y z h hy hz ⟨e.1, e.2.1, fun j ja jb => (e.2.2.1 j ja jb), e.2.2.2.1, e.2.2.2.2⟩
  | succ m ih =>
    intro i la y z h i0 i1 i2 hy hz e
    refine xi_iload (pc' := 44) (x := i) kc_99_42 rfl rfl ?_
    refine xi_aload_n (pc' := 45) (x := 8) kc_99_44 rfl rfl ?_
    refine xi_getfield (pc' := 48) (v := .ref 9) kc_99_45 rfl rfl rfl ((e.2.2.1 8 (by decide) (by decide)).trans E8) rfl ?_
    refine xi_arraylength (pc' := 49) (n := 601) (v := 601) kc_99_48 rfl (xl_lenI (by decide) (by decide) e.1 hy) rfl ?_
    by_cases c1 : 601 ≤ i.toInt
    · refine xi_cmt (pc' := 88) kc_99_49 rfl (xc_ge_t (X := i.toInt) (Y := 601) rfl (by decide) (by omega)) ?_
      refine xi_iload_n (pc' := 89) (x := 99) kc_99_88 rfl rfl ?_
      refine xi_ireturn kc_99_89 mr_99 rfl ?_
      exact kk y z h hy hz ⟨e.1, e.2.1, fun j ja jb => (e.2.2.1 j ja jb), e.2.2.2.1, e.2.2.2.2⟩
    · refine xi_cmf (pc' := 52) kc_99_49 rfl (xc_ge_f (X := i.toInt) (Y := 601) rfl (by decide) (by omega)) ?_
      refine xi_aload_n (pc' := 53) (x := 8) kc_99_52 rfl rfl ?_
      refine xi_getfield (pc' := 56) (v := .ref 9) kc_99_53 rfl rfl rfl ((e.2.2.1 8 (by decide) (by decide)).trans E8) rfl ?_
      refine xi_iload (pc' := 58) (x := i) kc_99_56 rfl rfl ?_
      obtain ⟨v2, ev2⟩ : ∃ q : Int32, y.getD (Int32.toNatClampNeg i) 0 = q := ⟨_, rfl⟩
      have rv2 := xc_rng v2
      refine xi_iaload (pc' := 59) (v := v2) kc_99_58 rfl e.1 (by decide) rfl (xi_in (by omega) (by rw [hy]; omega)) ev2 ?_
      refine xi_bipush (pc' := 61) (v := 99) kc_99_59 rfl rfl ?_
      by_cases c3 : v2.toInt = 99
      · refine xi_cmt (pc' := 73) kc_99_61 rfl (xc_eq_t (X := v2.toInt) (Y := 99) rfl (by decide) (by omega)) ?_
        refine xi_aload_n (pc' := 74) (x := 8) kc_99_73 rfl rfl ?_
        refine xi_getfield (pc' := 77) (v := .ref 10) kc_99_74 rfl rfl rfl ((e.2.2.1 8 (by decide) (by decide)).trans E8) rfl ?_
        refine xi_iload (pc' := 79) (x := i) kc_99_77 rfl rfl ?_
        refine xi_iload (pc' := 81) (x := la) kc_99_79 rfl rfl ?_
        obtain ⟨x4, hx4⟩ : ∃ q, (z : List Int32).set (Int32.toNatClampNeg i) (la) = q := ⟨_, rfl⟩
        have lx4 : x4.length = 601 := by rw [← hx4, List.length_set]; exact hz
        refine xi_iastore (pc' := 82) (x' := x4) kc_99_81 rfl e.2.1 rfl (xi_in (by omega) (by rw [hz]; omega)) hx4 (fun hh1 eh1 => ?_)
        obtain ⟨v5, ev5⟩ : ∃ q : Int32, i + 1 = q := ⟨_, rfl⟩
        have zv5 : v5.toInt = (i.toInt + 1) := by rw [← ev5]; exact (xz_add (X := i.toInt) (Y := 1) rfl (by decide) (by omega) (by omega)).trans (by omega)
        refine xi_iinc (pc' := 85) (x := i) (v := v5) (lv' := [(5, .int v5), (4, .int la), (3, .int 99), (0, .ref 8), (1, .int hr), (2, .int v)]) kc_99_82 rfl rfl ev5 rfl (xm_lt ml_99 rfl) ?_
        refine xi_goto (pc' := 42) kc_99_85 rfl ?_
        exact ih v5 la y x4 hh1 (by omega) (by omega) (by omega) hy lx4 ⟨((eh1.2.1 9 (by decide)).trans e.1), eh1.1, fun j ja jb => ((eh1.2.1 j jb).trans (e.2.2.1 j ja jb)), (eh1.2.2.1.trans e.2.2.2.1), (eh1.2.2.2.trans e.2.2.2.2)⟩
      · refine xi_cmf (pc' := 64) kc_99_61 rfl (xc_eq_f (X := v2.toInt) (Y := 99) rfl (by decide) (by omega)) ?_
        refine xi_aload_n (pc' := 65) (x := 8) kc_99_64 rfl rfl ?_
        refine xi_getfield (pc' := 68) (v := .ref 9) kc_99_65 rfl rfl rfl ((e.2.2.1 8 (by decide) (by decide)).trans E8) rfl ?_
        refine xi_iload (pc' := 70) (x := i) kc_99_68 rfl rfl ?_
        obtain ⟨v6, ev6⟩ : ∃ q : Int32, y.getD (Int32.toNatClampNeg i) 0 = q := ⟨_, rfl⟩
        have rv6 := xc_rng v6
        refine xi_iaload (pc' := 71) (v := v6) kc_99_70 rfl e.1 (by decide) rfl (xi_in (by omega) (by rw [hy]; omega)) ev6 ?_
        refine xi_istore (pc' := 73) (lv' := [(4, .int v6), (5, .int i), (3, .int 99), (0, .ref 8), (1, .int hr), (2, .int v)]) kc_99_71 rfl rfl (xm_lt ml_99 rfl) ?_
        refine xi_aload_n (pc' := 74) (x := 8) kc_99_73 rfl rfl ?_
        refine xi_getfield (pc' := 77) (v := .ref 10) kc_99_74 rfl rfl rfl ((e.2.2.1 8 (by decide) (by decide)).trans E8) rfl ?_
        refine xi_iload (pc' := 79) (x := i) kc_99_77 rfl rfl ?_
        refine xi_iload (pc' := 81) (x := v6) kc_99_79 rfl rfl ?_
        obtain ⟨x7, hx7⟩ : ∃ q, (z : List Int32).set (Int32.toNatClampNeg i) (v6) = q := ⟨_, rfl⟩
        have lx7 : x7.length = 601 := by rw [← hx7, List.length_set]; exact hz
        refine xi_iastore (pc' := 82) (x' := x7) kc_99_81 rfl e.2.1 rfl (xi_in (by omega) (by rw [hz]; omega)) hx7 (fun hh1 eh1 => ?_)
        obtain ⟨v8, ev8⟩ : ∃ q : Int32, i + 1 = q := ⟨_, rfl⟩
        have zv8 : v8.toInt = (i.toInt + 1) := by rw [← ev8]; exact (xz_add (X := i.toInt) (Y := 1) rfl (by decide) (by omega) (by omega)).trans (by omega)
        refine xi_iinc (pc' := 85) (x := i) (v := v8) (lv' := [(5, .int v8), (4, .int v6), (3, .int 99), (0, .ref 8), (1, .int hr), (2, .int v)]) kc_99_82 rfl rfl ev8 rfl (xm_lt ml_99 rfl) ?_
        refine xi_goto (pc' := 42) kc_99_85 rfl ?_
        exact ih v8 v6 y x7 hh1 (by omega) (by omega) (by omega) hy lx7 ⟨((eh1.2.1 9 (by decide)).trans e.1), eh1.1, fun j ja jb => ((eh1.2.1 j jb).trans (e.2.2.1 j ja jb)), (eh1.2.2.1.trans e.2.2.2.1), (eh1.2.2.2.trans e.2.2.2.2)⟩
