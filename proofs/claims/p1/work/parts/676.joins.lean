set_option maxHeartbeats 8000000 in
set_option maxRecDepth 100000 in
theorem mj_class {J : xe_J} {ov : List (List Int32)} {d : Nat} (hJ : ∀ d mj as h, mj ≠ xe_loff → J d mj as h = none) {Q : Option Value → xe_H → Prop} {h0 : xe_H} (e80 : h0[80]? = some (.inr (2, [.ref 81, .ref 82, .ref 83, .ref 84]))) (e83 : h0[83]? = some (.inl (0, .inl (List.replicate 24 2)))) (kk : Q (some (.int 0)) h0) : xw J ov (d + 1) 171 (0, [(0, .ref 80)], [], h0) Q := by
  refine xi_iconst (pc' := 1) (v := 0) kc_171_0 rfl rfl ?_
  refine xi_istore_n (pc' := 2) (lv' := [(1, .int 0), (0, .ref 80)]) kc_171_1 rfl rfl (xm_lt ml_171 rfl) ?_
  refine xi_iconst (pc' := 3) (v := 0) kc_171_2 rfl rfl ?_
  refine xi_istore_n (pc' := 4) (lv' := [(2, .int 0), (1, .int 0), (0, .ref 80)]) kc_171_3 rfl rfl (xm_lt ml_171 rfl) ?_
  refine xi_iload_n (pc' := 5) (x := 0) kc_171_4 rfl rfl ?_
  refine xi_bipush (pc' := 7) (v := 24) kc_171_5 rfl rfl ?_
  refine xi_cmf (pc' := 10) kc_171_7 rfl rfl ?_
  refine xi_iconst (pc' := 11) (v := 0) kc_171_10 rfl rfl ?_
  refine xi_istore_n (pc' := 12) (lv' := [(3, .int 0), (2, .int 0), (1, .int 0), (0, .ref 80)]) kc_171_11 rfl rfl (xm_lt ml_171 rfl) ?_
  refine xi_iload_n (pc' := 13) (x := 0) kc_171_12 rfl rfl ?_
  refine xi_iload_n (pc' := 14) (x := 0) kc_171_13 rfl rfl ?_
  refine xi_cmt (pc' := 55) kc_171_14 rfl rfl ?_
  refine xi_iinc (pc' := 58) (x := 0) (v := 1) (lv' := [(2, .int 1), (3, .int 0), (1, .int 0), (0, .ref 80)]) kc_171_55 rfl rfl rfl rfl (xm_lt ml_171 rfl) ?_
  refine xi_goto (pc' := 4) kc_171_58 rfl ?_
  refine xi_iload_n (pc' := 5) (x := 1) kc_171_4 rfl rfl ?_
  refine xi_bipush (pc' := 7) (v := 24) kc_171_5 rfl rfl ?_
  refine xi_cmf (pc' := 10) kc_171_7 rfl rfl ?_
  refine xi_iconst (pc' := 11) (v := 0) kc_171_10 rfl rfl ?_
  refine xi_istore_n (pc' := 12) (lv' := [(3, .int 0), (2, .int 1), (1, .int 0), (0, .ref 80)]) kc_171_11 rfl rfl (xm_lt ml_171 rfl) ?_
  refine xi_iload_n (pc' := 13) (x := 0) kc_171_12 rfl rfl ?_
  refine xi_iload_n (pc' := 14) (x := 1) kc_171_13 rfl rfl ?_
  refine xi_cmf (pc' := 17) kc_171_14 rfl rfl ?_
  refine xi_aload_n (pc' := 18) (x := 80) kc_171_17 rfl rfl ?_
  refine xi_getfield (pc' := 21) (v := .ref 83) kc_171_18 rfl rfl rfl e80 rfl ?_
  refine xi_iload_n (pc' := 22) (x := 1) kc_171_21 rfl rfl ?_
  refine xi_iaload (pc' := 23) (v := 2) kc_171_22 rfl e83 (by decide) rfl (xi_in (n := 24) (by decide) (by decide)) rfl ?_
  refine xi_iconst (pc' := 24) (v := 1) kc_171_23 rfl rfl ?_
  refine xi_cmt (pc' := 49) kc_171_24 rfl rfl ?_
  refine xi_iinc (pc' := 52) (x := 0) (v := 1) (lv' := [(3, .int 1), (2, .int 1), (1, .int 0), (0, .ref 80)]) kc_171_49 rfl rfl rfl rfl (xm_lt ml_171 rfl) ?_
  refine xi_goto (pc' := 12) kc_171_52 rfl ?_
  refine xi_iload_n (pc' := 13) (x := 1) kc_171_12 rfl rfl ?_
  refine xi_iload_n (pc' := 14) (x := 1) kc_171_13 rfl rfl ?_
  refine xi_cmt (pc' := 55) kc_171_14 rfl rfl ?_
  refine xi_iinc (pc' := 58) (x := 1) (v := 2) (lv' := [(2, .int 2), (3, .int 1), (1, .int 0), (0, .ref 80)]) kc_171_55 rfl rfl rfl rfl (xm_lt ml_171 rfl) ?_
  refine xi_goto (pc' := 4) kc_171_58 rfl ?_
  refine xi_iload_n (pc' := 5) (x := 2) kc_171_4 rfl rfl ?_
  refine xi_bipush (pc' := 7) (v := 24) kc_171_5 rfl rfl ?_
  refine xi_cmf (pc' := 10) kc_171_7 rfl rfl ?_
  refine xi_iconst (pc' := 11) (v := 0) kc_171_10 rfl rfl ?_
  refine xi_istore_n (pc' := 12) (lv' := [(3, .int 0), (2, .int 2), (1, .int 0), (0, .ref 80)]) kc_171_11 rfl rfl (xm_lt ml_171 rfl) ?_
  refine xi_iload_n (pc' := 13) (x := 0) kc_171_12 rfl rfl ?_
  refine xi_iload_n (pc' := 14) (x := 2) kc_171_13 rfl rfl ?_
  refine xi_cmf (pc' := 17) kc_171_14 rfl rfl ?_
  refine xi_aload_n (pc' := 18) (x := 80) kc_171_17 rfl rfl ?_
  refine xi_getfield (pc' := 21) (v := .ref 83) kc_171_18 rfl rfl rfl e80 rfl ?_
  refine xi_iload_n (pc' := 22) (x := 2) kc_171_21 rfl rfl ?_
  refine xi_iaload (pc' := 23) (v := 2) kc_171_22 rfl e83 (by decide) rfl (xi_in (n := 24) (by decide) (by decide)) rfl ?_
  refine xi_iconst (pc' := 24) (v := 1) kc_171_23 rfl rfl ?_
  refine xi_cmt (pc' := 49) kc_171_24 rfl rfl ?_
  refine xi_iinc (pc' := 52) (x := 0) (v := 1) (lv' := [(3, .int 1), (2, .int 2), (1, .int 0), (0, .ref 80)]) kc_171_49 rfl rfl rfl rfl (xm_lt ml_171 rfl) ?_
  refine xi_goto (pc' := 12) kc_171_52 rfl ?_
  refine xi_iload_n (pc' := 13) (x := 1) kc_171_12 rfl rfl ?_
  refine xi_iload_n (pc' := 14) (x := 2) kc_171_13 rfl rfl ?_
  refine xi_cmf (pc' := 17) kc_171_14 rfl rfl ?_
  refine xi_aload_n (pc' := 18) (x := 80) kc_171_17 rfl rfl ?_
  refine xi_getfield (pc' := 21) (v := .ref 83) kc_171_18 rfl rfl rfl e80 rfl ?_
  refine xi_iload_n (pc' := 22) (x := 2) kc_171_21 rfl rfl ?_
  refine xi_iaload (pc' := 23) (v := 2) kc_171_22 rfl e83 (by decide) rfl (xi_in (n := 24) (by decide) (by decide)) rfl ?_
  refine xi_iconst (pc' := 24) (v := 1) kc_171_23 rfl rfl ?_
  refine xi_cmt (pc' := 49) kc_171_24 rfl rfl ?_
  refine xi_iinc (pc' := 52) (x := 1) (v := 2) (lv' := [(3, .int 2), (2, .int 2), (1, .int 0), (0, .ref 80)]) kc_171_49 rfl rfl rfl rfl (xm_lt ml_171 rfl) ?_
  refine xi_goto (pc' := 12) kc_171_52 rfl ?_
  refine xi_iload_n (pc' := 13) (x := 2) kc_171_12 rfl rfl ?_
  refine xi_iload_n (pc' := 14) (x := 2) kc_171_13 rfl rfl ?_
  refine xi_cmt (pc' := 55) kc_171_14 rfl rfl ?_
  refine xi_iinc (pc' := 58) (x := 2) (v := 3) (lv' := [(2, .int 3), (3, .int 2), (1, .int 0), (0, .ref 80)]) kc_171_55 rfl rfl rfl rfl (xm_lt ml_171 rfl) ?_
  refine xi_goto (pc' := 4) kc_171_58 rfl ?_
  refine xi_iload_n (pc' := 5) (x := 3) kc_171_4 rfl rfl ?_
  refine xi_bipush (pc' := 7) (v := 24) kc_171_5 rfl rfl ?_
  refine xi_cmf (pc' := 10) kc_171_7 rfl rfl ?_
  refine xi_iconst (pc' := 11) (v := 0) kc_171_10 rfl rfl ?_
  refine xi_istore_n (pc' := 12) (lv' := [(3, .int 0), (2, .int 3), (1, .int 0), (0, .ref 80)]) kc_171_11 rfl rfl (xm_lt ml_171 rfl) ?_
  refine xi_iload_n (pc' := 13) (x := 0) kc_171_12 rfl rfl ?_
  refine xi_iload_n (pc' := 14) (x := 3) kc_171_13 rfl rfl ?_
  refine xi_cmf (pc' := 17) kc_171_14 rfl rfl ?_
  refine xi_aload_n (pc' := 18) (x := 80) kc_171_17 rfl rfl ?_
  refine xi_getfield (pc' := 21) (v := .ref 83) kc_171_18 rfl rfl rfl e80 rfl ?_
  refine xi_iload_n (pc' := 22) (x := 3) kc_171_21 rfl rfl ?_
  refine xi_iaload (pc' := 23) (v := 2) kc_171_22 rfl e83 (by decide) rfl (xi_in (n := 24) (by decide) (by decide)) rfl ?_
  refine xi_iconst (pc' := 24) (v := 1) kc_171_23 rfl rfl ?_
  refine xi_cmt (pc' := 49) kc_171_24 rfl rfl ?_
  refine xi_iinc (pc' := 52) (x := 0) (v := 1) (lv' := [(3, .int 1), (2, .int 3), (1, .int 0), (0, .ref 80)]) kc_171_49 rfl rfl rfl rfl (xm_lt ml_171 rfl) ?_
  refine xi_goto (pc' := 12) kc_171_52 rfl ?_
  refine xi_iload_n (pc' := 13) (x := 1) kc_171_12 rfl rfl ?_
  refine xi_iload_n (pc' := 14) (x := 3) kc_171_13 rfl rfl ?_
  refine xi_cmf (pc' := 17) kc_171_14 rfl rfl ?_
  refine xi_aload_n (pc' := 18) (x := 80) kc_171_17 rfl rfl ?_
  refine xi_getfield (pc' := 21) (v := .ref 83) kc_171_18 rfl rfl rfl e80 rfl ?_
  refine xi_iload_n (pc' := 22) (x := 3) kc_171_21 rfl rfl ?_
  refine xi_iaload (pc' := 23) (v := 2) kc_171_22 rfl e83 (by decide) rfl (xi_in (n := 24) (by decide) (by decide)) rfl ?_
  refine xi_iconst (pc' := 24) (v := 1) kc_171_23 rfl rfl ?_
  refine xi_cmt (pc' := 49) kc_171_24 rfl rfl ?_
  refine xi_iinc (pc' := 52) (x := 1) (v := 2) (lv' := [(3, .int 2), (2, .int 3), (1, .int 0), (0, .ref 80)]) kc_171_49 rfl rfl rfl rfl (xm_lt ml_171 rfl) ?_
  refine xi_goto (pc' := 12) kc_171_52 rfl ?_
  refine xi_iload_n (pc' := 13) (x := 2) kc_171_12 rfl rfl ?_
  refine xi_iload_n (pc' := 14) (x := 3) kc_171_13 rfl rfl ?_
  refine xi_cmf (pc' := 17) kc_171_14 rfl rfl ?_
  refine xi_aload_n (pc' := 18) (x := 80) kc_171_17 rfl rfl ?_
  refine xi_getfield (pc' := 21) (v := .ref 83) kc_171_18 rfl rfl rfl e80 rfl ?_
  refine xi_iload_n (pc' := 22) (x := 3) kc_171_21 rfl rfl ?_
  refine xi_iaload (pc' := 23) (v := 2) kc_171_22 rfl e83 (by decide) rfl (xi_in (n := 24) (by decide) (by decide)) rfl ?_
  refine xi_iconst (pc' := 24) (v := 1) kc_171_23 rfl rfl ?_
  refine xi_cmt (pc' := 49) kc_171_24 rfl rfl ?_
  refine xi_iinc (pc' := 52) (x := 2) (v := 3) (lv' := [(3, .int 3), (2, .int 3), (1, .int 0), (0, .ref 80)]) kc_171_49 rfl rfl rfl rfl (xm_lt ml_171 rfl) ?_
  refine xi_goto (pc' := 12) kc_171_52 rfl ?_
  refine xi_iload_n (pc' := 13) (x := 3) kc_171_12 rfl rfl ?_
  refine xi_iload_n (pc' := 14) (x := 3) kc_171_13 rfl rfl ?_
  refine xi_cmt (pc' := 55) kc_171_14 rfl rfl ?_
  refine xi_iinc (pc' := 58) (x := 3) (v := 4) (lv' := [(2, .int 4), (3, .int 3), (1, .int 0), (0, .ref 80)]) kc_171_55 rfl rfl rfl rfl (xm_lt ml_171 rfl) ?_
  refine xi_goto (pc' := 4) kc_171_58 rfl ?_
  refine xi_iload_n (pc' := 5) (x := 4) kc_171_4 rfl rfl ?_
  refine xi_bipush (pc' := 7) (v := 24) kc_171_5 rfl rfl ?_
  refine xi_cmf (pc' := 10) kc_171_7 rfl rfl ?_
  refine xi_iconst (pc' := 11) (v := 0) kc_171_10 rfl rfl ?_
  refine xi_istore_n (pc' := 12) (lv' := [(3, .int 0), (2, .int 4), (1, .int 0), (0, .ref 80)]) kc_171_11 rfl rfl (xm_lt ml_171 rfl) ?_
  refine xi_iload_n (pc' := 13) (x := 0) kc_171_12 rfl rfl ?_
  refine xi_iload_n (pc' := 14) (x := 4) kc_171_13 rfl rfl ?_
  refine xi_cmf (pc' := 17) kc_171_14 rfl rfl ?_
  refine xi_aload_n (pc' := 18) (x := 80) kc_171_17 rfl rfl ?_
  refine xi_getfield (pc' := 21) (v := .ref 83) kc_171_18 rfl rfl rfl e80 rfl ?_
  refine xi_iload_n (pc' := 22) (x := 4) kc_171_21 rfl rfl ?_
  refine xi_iaload (pc' := 23) (v := 2) kc_171_22 rfl e83 (by decide) rfl (xi_in (n := 24) (by decide) (by decide)) rfl ?_
  refine xi_iconst (pc' := 24) (v := 1) kc_171_23 rfl rfl ?_
  refine xi_cmt (pc' := 49) kc_171_24 rfl rfl ?_
  refine xi_iinc (pc' := 52) (x := 0) (v := 1) (lv' := [(3, .int 1), (2, .int 4), (1, .int 0), (0, .ref 80)]) kc_171_49 rfl rfl rfl rfl (xm_lt ml_171 rfl) ?_
  refine xi_goto (pc' := 12) kc_171_52 rfl ?_
  refine xi_iload_n (pc' := 13) (x := 1) kc_171_12 rfl rfl ?_
  refine xi_iload_n (pc' := 14) (x := 4) kc_171_13 rfl rfl ?_
  refine xi_cmf (pc' := 17) kc_171_14 rfl rfl ?_
  refine xi_aload_n (pc' := 18) (x := 80) kc_171_17 rfl rfl ?_
  refine xi_getfield (pc' := 21) (v := .ref 83) kc_171_18 rfl rfl rfl e80 rfl ?_
  refine xi_iload_n (pc' := 22) (x := 4) kc_171_21 rfl rfl ?_
  refine xi_iaload (pc' := 23) (v := 2) kc_171_22 rfl e83 (by decide) rfl (xi_in (n := 24) (by decide) (by decide)) rfl ?_
  refine xi_iconst (pc' := 24) (v := 1) kc_171_23 rfl rfl ?_
  refine xi_cmt (pc' := 49) kc_171_24 rfl rfl ?_
  refine xi_iinc (pc' := 52) (x := 1) (v := 2) (lv' := [(3, .int 2), (2, .int 4), (1, .int 0), (0, .ref 80)]) kc_171_49 rfl rfl rfl rfl (xm_lt ml_171 rfl) ?_
  refine xi_goto (pc' := 12) kc_171_52 rfl ?_
  refine xi_iload_n (pc' := 13) (x := 2) kc_171_12 rfl rfl ?_
  refine xi_iload_n (pc' := 14) (x := 4) kc_171_13 rfl rfl ?_
  refine xi_cmf (pc' := 17) kc_171_14 rfl rfl ?_
  refine xi_aload_n (pc' := 18) (x := 80) kc_171_17 rfl rfl ?_
  refine xi_getfield (pc' := 21) (v := .ref 83) kc_171_18 rfl rfl rfl e80 rfl ?_
  refine xi_iload_n (pc' := 22) (x := 4) kc_171_21 rfl rfl ?_
  refine xi_iaload (pc' := 23) (v := 2) kc_171_22 rfl e83 (by decide) rfl (xi_in (n := 24) (by decide) (by decide)) rfl ?_
  refine xi_iconst (pc' := 24) (v := 1) kc_171_23 rfl rfl ?_
  refine xi_cmt (pc' := 49) kc_171_24 rfl rfl ?_
  refine xi_iinc (pc' := 52) (x := 2) (v := 3) (lv' := [(3, .int 3), (2, .int 4), (1, .int 0), (0, .ref 80)]) kc_171_49 rfl rfl rfl rfl (xm_lt ml_171 rfl) ?_
  refine xi_goto (pc' := 12) kc_171_52 rfl ?_
  refine xi_iload_n (pc' := 13) (x := 3) kc_171_12 rfl rfl ?_
  refine xi_iload_n (pc' := 14) (x := 4) kc_171_13 rfl rfl ?_
  refine xi_cmf (pc' := 17) kc_171_14 rfl rfl ?_
  refine xi_aload_n (pc' := 18) (x := 80) kc_171_17 rfl rfl ?_
  refine xi_getfield (pc' := 21) (v := .ref 83) kc_171_18 rfl rfl rfl e80 rfl ?_
  refine xi_iload_n (pc' := 22) (x := 4) kc_171_21 rfl rfl ?_
  refine xi_iaload (pc' := 23) (v := 2) kc_171_22 rfl e83 (by decide) rfl (xi_in (n := 24) (by decide) (by decide)) rfl ?_
  refine xi_iconst (pc' := 24) (v := 1) kc_171_23 rfl rfl ?_
  refine xi_cmt (pc' := 49) kc_171_24 rfl rfl ?_
  refine xi_iinc (pc' := 52) (x := 3) (v := 4) (lv' := [(3, .int 4), (2, .int 4), (1, .int 0), (0, .ref 80)]) kc_171_49 rfl rfl rfl rfl (xm_lt ml_171 rfl) ?_
  refine xi_goto (pc' := 12) kc_171_52 rfl ?_
  refine xi_iload_n (pc' := 13) (x := 4) kc_171_12 rfl rfl ?_
  refine xi_iload_n (pc' := 14) (x := 4) kc_171_13 rfl rfl ?_
  refine xi_cmt (pc' := 55) kc_171_14 rfl rfl ?_
  refine xi_iinc (pc' := 58) (x := 4) (v := 5) (lv' := [(2, .int 5), (3, .int 4), (1, .int 0), (0, .ref 80)]) kc_171_55 rfl rfl rfl rfl (xm_lt ml_171 rfl) ?_
  refine xi_goto (pc' := 4) kc_171_58 rfl ?_
  refine xi_iload_n (pc' := 5) (x := 5) kc_171_4 rfl rfl ?_
  refine xi_bipush (pc' := 7) (v := 24) kc_171_5 rfl rfl ?_
  refine xi_cmf (pc' := 10) kc_171_7 rfl rfl ?_
  refine xi_iconst (pc' := 11) (v := 0) kc_171_10 rfl rfl ?_
  refine xi_istore_n (pc' := 12) (lv' := [(3, .int 0), (2, .int 5), (1, .int 0), (0, .ref 80)]) kc_171_11 rfl rfl (xm_lt ml_171 rfl) ?_
  refine xi_iload_n (pc' := 13) (x := 0) kc_171_12 rfl rfl ?_
  refine xi_iload_n (pc' := 14) (x := 5) kc_171_13 rfl rfl ?_
  refine xi_cmf (pc' := 17) kc_171_14 rfl rfl ?_
  refine xi_aload_n (pc' := 18) (x := 80) kc_171_17 rfl rfl ?_
  refine xi_getfield (pc' := 21) (v := .ref 83) kc_171_18 rfl rfl rfl e80 rfl ?_
  refine xi_iload_n (pc' := 22) (x := 5) kc_171_21 rfl rfl ?_
  refine xi_iaload (pc' := 23) (v := 2) kc_171_22 rfl e83 (by decide) rfl (xi_in (n := 24) (by decide) (by decide)) rfl ?_
  refine xi_iconst (pc' := 24) (v := 1) kc_171_23 rfl rfl ?_
  refine xi_cmt (pc' := 49) kc_171_24 rfl rfl ?_
  refine xi_iinc (pc' := 52) (x := 0) (v := 1) (lv' := [(3, .int 1), (2, .int 5), (1, .int 0), (0, .ref 80)]) kc_171_49 rfl rfl rfl rfl (xm_lt ml_171 rfl) ?_
  refine xi_goto (pc' := 12) kc_171_52 rfl ?_
  refine xi_iload_n (pc' := 13) (x := 1) kc_171_12 rfl rfl ?_
  refine xi_iload_n (pc' := 14) (x := 5) kc_171_13 rfl rfl ?_
  refine xi_cmf (pc' := 17) kc_171_14 rfl rfl ?_
  refine xi_aload_n (pc' := 18) (x := 80) kc_171_17 rfl rfl ?_
  refine xi_getfield (pc' := 21) (v := .ref 83) kc_171_18 rfl rfl rfl e80 rfl ?_
  refine xi_iload_n (pc' := 22) (x := 5) kc_171_21 rfl rfl ?_
  refine xi_iaload (pc' := 23) (v := 2) kc_171_22 rfl e83 (by decide) rfl (xi_in (n := 24) (by decide) (by decide)) rfl ?_
  refine xi_iconst (pc' := 24) (v := 1) kc_171_23 rfl rfl ?_
  refine xi_cmt (pc' := 49) kc_171_24 rfl rfl ?_
  refine xi_iinc (pc' := 52) (x := 1) (v := 2) (lv' := [(3, .int 2), (2, .int 5), (1, .int 0), (0, .ref 80)]) kc_171_49 rfl rfl rfl rfl (xm_lt ml_171 rfl) ?_
  refine xi_goto (pc' := 12) kc_171_52 rfl ?_
  refine xi_iload_n (pc' := 13) (x := 2) kc_171_12 rfl rfl ?_
  refine xi_iload_n (pc' := 14) (x := 5) kc_171_13 rfl rfl ?_
  refine xi_cmf (pc' := 17) kc_171_14 rfl rfl ?_
  refine xi_aload_n (pc' := 18) (x := 80) kc_171_17 rfl rfl ?_
  refine xi_getfield (pc' := 21) (v := .ref 83) kc_171_18 rfl rfl rfl e80 rfl ?_
  refine xi_iload_n (pc' := 22) (x := 5) kc_171_21 rfl rfl ?_
  refine xi_iaload (pc' := 23) (v := 2) kc_171_22 rfl e83 (by decide) rfl (xi_in (n := 24) (by decide) (by decide)) rfl ?_
  refine xi_iconst (pc' := 24) (v := 1) kc_171_23 rfl rfl ?_
  refine xi_cmt (pc' := 49) kc_171_24 rfl rfl ?_
  refine xi_iinc (pc' := 52) (x := 2) (v := 3) (lv' := [(3, .int 3), (2, .int 5), (1, .int 0), (0, .ref 80)]) kc_171_49 rfl rfl rfl rfl (xm_lt ml_171 rfl) ?_
  refine xi_goto (pc' := 12) kc_171_52 rfl ?_
  refine xi_iload_n (pc' := 13) (x := 3) kc_171_12 rfl rfl ?_
  refine xi_iload_n (pc' := 14) (x := 5) kc_171_13 rfl rfl ?_
  refine xi_cmf (pc' := 17) kc_171_14 rfl rfl ?_
  refine xi_aload_n (pc' := 18) (x := 80) kc_171_17 rfl rfl ?_
  refine xi_getfield (pc' := 21) (v := .ref 83) kc_171_18 rfl rfl rfl e80 rfl ?_
  refine xi_iload_n (pc' := 22) (x := 5) kc_171_21 rfl rfl ?_
  refine xi_iaload (pc' := 23) (v := 2) kc_171_22 rfl e83 (by decide) rfl (xi_in (n := 24) (by decide) (by decide)) rfl ?_
  refine xi_iconst (pc' := 24) (v := 1) kc_171_23 rfl rfl ?_
  refine xi_cmt (pc' := 49) kc_171_24 rfl rfl ?_
  refine xi_iinc (pc' := 52) (x := 3) (v := 4) (lv' := [(3, .int 4), (2, .int 5), (1, .int 0), (0, .ref 80)]) kc_171_49 rfl rfl rfl rfl (xm_lt ml_171 rfl) ?_
  refine xi_goto (pc' := 12) kc_171_52 rfl ?_
  refine xi_iload_n (pc' := 13) (x := 4) kc_171_12 rfl rfl ?_
  refine xi_iload_n (pc' := 14) (x := 5) kc_171_13 rfl rfl ?_
  refine xi_cmf (pc' := 17) kc_171_14 rfl rfl ?_
  refine xi_aload_n (pc' := 18) (x := 80) kc_171_17 rfl rfl ?_
  refine xi_getfield (pc' := 21) (v := .ref 83) kc_171_18 rfl rfl rfl e80 rfl ?_
  refine xi_iload_n (pc' := 22) (x := 5) kc_171_21 rfl rfl ?_
  refine xi_iaload (pc' := 23) (v := 2) kc_171_22 rfl e83 (by decide) rfl (xi_in (n := 24) (by decide) (by decide)) rfl ?_
  refine xi_iconst (pc' := 24) (v := 1) kc_171_23 rfl rfl ?_
  refine xi_cmt (pc' := 49) kc_171_24 rfl rfl ?_
  refine xi_iinc (pc' := 52) (x := 4) (v := 5) (lv' := [(3, .int 5), (2, .int 5), (1, .int 0), (0, .ref 80)]) kc_171_49 rfl rfl rfl rfl (xm_lt ml_171 rfl) ?_
  refine xi_goto (pc' := 12) kc_171_52 rfl ?_
  refine xi_iload_n (pc' := 13) (x := 5) kc_171_12 rfl rfl ?_
  refine xi_iload_n (pc' := 14) (x := 5) kc_171_13 rfl rfl ?_
  refine xi_cmt (pc' := 55) kc_171_14 rfl rfl ?_
  refine xi_iinc (pc' := 58) (x := 5) (v := 6) (lv' := [(2, .int 6), (3, .int 5), (1, .int 0), (0, .ref 80)]) kc_171_55 rfl rfl rfl rfl (xm_lt ml_171 rfl) ?_
  refine xi_goto (pc' := 4) kc_171_58 rfl ?_
  refine xi_iload_n (pc' := 5) (x := 6) kc_171_4 rfl rfl ?_
  refine xi_bipush (pc' := 7) (v := 24) kc_171_5 rfl rfl ?_
  refine xi_cmf (pc' := 10) kc_171_7 rfl rfl ?_
  refine xi_iconst (pc' := 11) (v := 0) kc_171_10 rfl rfl ?_
  refine xi_istore_n (pc' := 12) (lv' := [(3, .int 0), (2, .int 6), (1, .int 0), (0, .ref 80)]) kc_171_11 rfl rfl (xm_lt ml_171 rfl) ?_
  refine xi_iload_n (pc' := 13) (x := 0) kc_171_12 rfl rfl ?_
  refine xi_iload_n (pc' := 14) (x := 6) kc_171_13 rfl rfl ?_
  refine xi_cmf (pc' := 17) kc_171_14 rfl rfl ?_
  refine xi_aload_n (pc' := 18) (x := 80) kc_171_17 rfl rfl ?_
  refine xi_getfield (pc' := 21) (v := .ref 83) kc_171_18 rfl rfl rfl e80 rfl ?_
  refine xi_iload_n (pc' := 22) (x := 6) kc_171_21 rfl rfl ?_
  refine xi_iaload (pc' := 23) (v := 2) kc_171_22 rfl e83 (by decide) rfl (xi_in (n := 24) (by decide) (by decide)) rfl ?_
  refine xi_iconst (pc' := 24) (v := 1) kc_171_23 rfl rfl ?_
  refine xi_cmt (pc' := 49) kc_171_24 rfl rfl ?_
  refine xi_iinc (pc' := 52) (x := 0) (v := 1) (lv' := [(3, .int 1), (2, .int 6), (1, .int 0), (0, .ref 80)]) kc_171_49 rfl rfl rfl rfl (xm_lt ml_171 rfl) ?_
  refine xi_goto (pc' := 12) kc_171_52 rfl ?_
  refine xi_iload_n (pc' := 13) (x := 1) kc_171_12 rfl rfl ?_
  refine xi_iload_n (pc' := 14) (x := 6) kc_171_13 rfl rfl ?_
  refine xi_cmf (pc' := 17) kc_171_14 rfl rfl ?_
  refine xi_aload_n (pc' := 18) (x := 80) kc_171_17 rfl rfl ?_
  refine xi_getfield (pc' := 21) (v := .ref 83) kc_171_18 rfl rfl rfl e80 rfl ?_
  refine xi_iload_n (pc' := 22) (x := 6) kc_171_21 rfl rfl ?_
  refine xi_iaload (pc' := 23) (v := 2) kc_171_22 rfl e83 (by decide) rfl (xi_in (n := 24) (by decide) (by decide)) rfl ?_
  refine xi_iconst (pc' := 24) (v := 1) kc_171_23 rfl rfl ?_
  refine xi_cmt (pc' := 49) kc_171_24 rfl rfl ?_
  refine xi_iinc (pc' := 52) (x := 1) (v := 2) (lv' := [(3, .int 2), (2, .int 6), (1, .int 0), (0, .ref 80)]) kc_171_49 rfl rfl rfl rfl (xm_lt ml_171 rfl) ?_
  refine xi_goto (pc' := 12) kc_171_52 rfl ?_
  refine xi_iload_n (pc' := 13) (x := 2) kc_171_12 rfl rfl ?_
  refine xi_iload_n (pc' := 14) (x := 6) kc_171_13 rfl rfl ?_
  refine xi_cmf (pc' := 17) kc_171_14 rfl rfl ?_
  refine xi_aload_n (pc' := 18) (x := 80) kc_171_17 rfl rfl ?_
  refine xi_getfield (pc' := 21) (v := .ref 83) kc_171_18 rfl rfl rfl e80 rfl ?_
  refine xi_iload_n (pc' := 22) (x := 6) kc_171_21 rfl rfl ?_
  refine xi_iaload (pc' := 23) (v := 2) kc_171_22 rfl e83 (by decide) rfl (xi_in (n := 24) (by decide) (by decide)) rfl ?_
  refine xi_iconst (pc' := 24) (v := 1) kc_171_23 rfl rfl ?_
  refine xi_cmt (pc' := 49) kc_171_24 rfl rfl ?_
  refine xi_iinc (pc' := 52) (x := 2) (v := 3) (lv' := [(3, .int 3), (2, .int 6), (1, .int 0), (0, .ref 80)]) kc_171_49 rfl rfl rfl rfl (xm_lt ml_171 rfl) ?_
  refine xi_goto (pc' := 12) kc_171_52 rfl ?_
  refine xi_iload_n (pc' := 13) (x := 3) kc_171_12 rfl rfl ?_
  refine xi_iload_n (pc' := 14) (x := 6) kc_171_13 rfl rfl ?_
  refine xi_cmf (pc' := 17) kc_171_14 rfl rfl ?_
  refine xi_aload_n (pc' := 18) (x := 80) kc_171_17 rfl rfl ?_
  refine xi_getfield (pc' := 21) (v := .ref 83) kc_171_18 rfl rfl rfl e80 rfl ?_
  refine xi_iload_n (pc' := 22) (x := 6) kc_171_21 rfl rfl ?_
  refine xi_iaload (pc' := 23) (v := 2) kc_171_22 rfl e83 (by decide) rfl (xi_in (n := 24) (by decide) (by decide)) rfl ?_
  refine xi_iconst (pc' := 24) (v := 1) kc_171_23 rfl rfl ?_
  refine xi_cmt (pc' := 49) kc_171_24 rfl rfl ?_
  refine xi_iinc (pc' := 52) (x := 3) (v := 4) (lv' := [(3, .int 4), (2, .int 6), (1, .int 0), (0, .ref 80)]) kc_171_49 rfl rfl rfl rfl (xm_lt ml_171 rfl) ?_
  refine xi_goto (pc' := 12) kc_171_52 rfl ?_
  refine xi_iload_n (pc' := 13) (x := 4) kc_171_12 rfl rfl ?_
  refine xi_iload_n (pc' := 14) (x := 6) kc_171_13 rfl rfl ?_
  refine xi_cmf (pc' := 17) kc_171_14 rfl rfl ?_
  refine xi_aload_n (pc' := 18) (x := 80) kc_171_17 rfl rfl ?_
  refine xi_getfield (pc' := 21) (v := .ref 83) kc_171_18 rfl rfl rfl e80 rfl ?_
  refine xi_iload_n (pc' := 22) (x := 6) kc_171_21 rfl rfl ?_
  refine xi_iaload (pc' := 23) (v := 2) kc_171_22 rfl e83 (by decide) rfl (xi_in (n := 24) (by decide) (by decide)) rfl ?_
  refine xi_iconst (pc' := 24) (v := 1) kc_171_23 rfl rfl ?_
  refine xi_cmt (pc' := 49) kc_171_24 rfl rfl ?_
  refine xi_iinc (pc' := 52) (x := 4) (v := 5) (lv' := [(3, .int 5), (2, .int 6), (1, .int 0), (0, .ref 80)]) kc_171_49 rfl rfl rfl rfl (xm_lt ml_171 rfl) ?_
  refine xi_goto (pc' := 12) kc_171_52 rfl ?_
  refine xi_iload_n (pc' := 13) (x := 5) kc_171_12 rfl rfl ?_
  refine xi_iload_n (pc' := 14) (x := 6) kc_171_13 rfl rfl ?_
  refine xi_cmf (pc' := 17) kc_171_14 rfl rfl ?_
  refine xi_aload_n (pc' := 18) (x := 80) kc_171_17 rfl rfl ?_
  refine xi_getfield (pc' := 21) (v := .ref 83) kc_171_18 rfl rfl rfl e80 rfl ?_
  refine xi_iload_n (pc' := 22) (x := 6) kc_171_21 rfl rfl ?_
  refine xi_iaload (pc' := 23) (v := 2) kc_171_22 rfl e83 (by decide) rfl (xi_in (n := 24) (by decide) (by decide)) rfl ?_
  refine xi_iconst (pc' := 24) (v := 1) kc_171_23 rfl rfl ?_
  refine xi_cmt (pc' := 49) kc_171_24 rfl rfl ?_
  refine xi_iinc (pc' := 52) (x := 5) (v := 6) (lv' := [(3, .int 6), (2, .int 6), (1, .int 0), (0, .ref 80)]) kc_171_49 rfl rfl rfl rfl (xm_lt ml_171 rfl) ?_
  refine xi_goto (pc' := 12) kc_171_52 rfl ?_
  refine xi_iload_n (pc' := 13) (x := 6) kc_171_12 rfl rfl ?_
  refine xi_iload_n (pc' := 14) (x := 6) kc_171_13 rfl rfl ?_
  refine xi_cmt (pc' := 55) kc_171_14 rfl rfl ?_
  refine xi_iinc (pc' := 58) (x := 6) (v := 7) (lv' := [(2, .int 7), (3, .int 6), (1, .int 0), (0, .ref 80)]) kc_171_55 rfl rfl rfl rfl (xm_lt ml_171 rfl) ?_
  refine xi_goto (pc' := 4) kc_171_58 rfl ?_
  refine xi_iload_n (pc' := 5) (x := 7) kc_171_4 rfl rfl ?_
  refine xi_bipush (pc' := 7) (v := 24) kc_171_5 rfl rfl ?_
  refine xi_cmf (pc' := 10) kc_171_7 rfl rfl ?_
  refine xi_iconst (pc' := 11) (v := 0) kc_171_10 rfl rfl ?_
  refine xi_istore_n (pc' := 12) (lv' := [(3, .int 0), (2, .int 7), (1, .int 0), (0, .ref 80)]) kc_171_11 rfl rfl (xm_lt ml_171 rfl) ?_
  refine xi_iload_n (pc' := 13) (x := 0) kc_171_12 rfl rfl ?_
  refine xi_iload_n (pc' := 14) (x := 7) kc_171_13 rfl rfl ?_
  refine xi_cmf (pc' := 17) kc_171_14 rfl rfl ?_
  refine xi_aload_n (pc' := 18) (x := 80) kc_171_17 rfl rfl ?_
  refine xi_getfield (pc' := 21) (v := .ref 83) kc_171_18 rfl rfl rfl e80 rfl ?_
  refine xi_iload_n (pc' := 22) (x := 7) kc_171_21 rfl rfl ?_
  refine xi_iaload (pc' := 23) (v := 2) kc_171_22 rfl e83 (by decide) rfl (xi_in (n := 24) (by decide) (by decide)) rfl ?_
  refine xi_iconst (pc' := 24) (v := 1) kc_171_23 rfl rfl ?_
  refine xi_cmt (pc' := 49) kc_171_24 rfl rfl ?_
  refine xi_iinc (pc' := 52) (x := 0) (v := 1) (lv' := [(3, .int 1), (2, .int 7), (1, .int 0), (0, .ref 80)]) kc_171_49 rfl rfl rfl rfl (xm_lt ml_171 rfl) ?_
  refine xi_goto (pc' := 12) kc_171_52 rfl ?_
  refine xi_iload_n (pc' := 13) (x := 1) kc_171_12 rfl rfl ?_
  refine xi_iload_n (pc' := 14) (x := 7) kc_171_13 rfl rfl ?_
  refine xi_cmf (pc' := 17) kc_171_14 rfl rfl ?_
  refine xi_aload_n (pc' := 18) (x := 80) kc_171_17 rfl rfl ?_
  refine xi_getfield (pc' := 21) (v := .ref 83) kc_171_18 rfl rfl rfl e80 rfl ?_
  refine xi_iload_n (pc' := 22) (x := 7) kc_171_21 rfl rfl ?_
  refine xi_iaload (pc' := 23) (v := 2) kc_171_22 rfl e83 (by decide) rfl (xi_in (n := 24) (by decide) (by decide)) rfl ?_
  refine xi_iconst (pc' := 24) (v := 1) kc_171_23 rfl rfl ?_
  refine xi_cmt (pc' := 49) kc_171_24 rfl rfl ?_
  refine xi_iinc (pc' := 52) (x := 1) (v := 2) (lv' := [(3, .int 2), (2, .int 7), (1, .int 0), (0, .ref 80)]) kc_171_49 rfl rfl rfl rfl (xm_lt ml_171 rfl) ?_
  refine xi_goto (pc' := 12) kc_171_52 rfl ?_
  refine xi_iload_n (pc' := 13) (x := 2) kc_171_12 rfl rfl ?_
  refine xi_iload_n (pc' := 14) (x := 7) kc_171_13 rfl rfl ?_
  refine xi_cmf (pc' := 17) kc_171_14 rfl rfl ?_
  refine xi_aload_n (pc' := 18) (x := 80) kc_171_17 rfl rfl ?_
  refine xi_getfield (pc' := 21) (v := .ref 83) kc_171_18 rfl rfl rfl e80 rfl ?_
  refine xi_iload_n (pc' := 22) (x := 7) kc_171_21 rfl rfl ?_
  refine xi_iaload (pc' := 23) (v := 2) kc_171_22 rfl e83 (by decide) rfl (xi_in (n := 24) (by decide) (by decide)) rfl ?_
  refine xi_iconst (pc' := 24) (v := 1) kc_171_23 rfl rfl ?_
  refine xi_cmt (pc' := 49) kc_171_24 rfl rfl ?_
  refine xi_iinc (pc' := 52) (x := 2) (v := 3) (lv' := [(3, .int 3), (2, .int 7), (1, .int 0), (0, .ref 80)]) kc_171_49 rfl rfl rfl rfl (xm_lt ml_171 rfl) ?_
  refine xi_goto (pc' := 12) kc_171_52 rfl ?_
  refine xi_iload_n (pc' := 13) (x := 3) kc_171_12 rfl rfl ?_
  refine xi_iload_n (pc' := 14) (x := 7) kc_171_13 rfl rfl ?_
  refine xi_cmf (pc' := 17) kc_171_14 rfl rfl ?_
  refine xi_aload_n (pc' := 18) (x := 80) kc_171_17 rfl rfl ?_
  refine xi_getfield (pc' := 21) (v := .ref 83) kc_171_18 rfl rfl rfl e80 rfl ?_
  refine xi_iload_n (pc' := 22) (x := 7) kc_171_21 rfl rfl ?_
  refine xi_iaload (pc' := 23) (v := 2) kc_171_22 rfl e83 (by decide) rfl (xi_in (n := 24) (by decide) (by decide)) rfl ?_
  refine xi_iconst (pc' := 24) (v := 1) kc_171_23 rfl rfl ?_
  refine xi_cmt (pc' := 49) kc_171_24 rfl rfl ?_
  refine xi_iinc (pc' := 52) (x := 3) (v := 4) (lv' := [(3, .int 4), (2, .int 7), (1, .int 0), (0, .ref 80)]) kc_171_49 rfl rfl rfl rfl (xm_lt ml_171 rfl) ?_
  refine xi_goto (pc' := 12) kc_171_52 rfl ?_
  refine xi_iload_n (pc' := 13) (x := 4) kc_171_12 rfl rfl ?_
  refine xi_iload_n (pc' := 14) (x := 7) kc_171_13 rfl rfl ?_
  refine xi_cmf (pc' := 17) kc_171_14 rfl rfl ?_
  refine xi_aload_n (pc' := 18) (x := 80) kc_171_17 rfl rfl ?_
  refine xi_getfield (pc' := 21) (v := .ref 83) kc_171_18 rfl rfl rfl e80 rfl ?_
  refine xi_iload_n (pc' := 22) (x := 7) kc_171_21 rfl rfl ?_
  refine xi_iaload (pc' := 23) (v := 2) kc_171_22 rfl e83 (by decide) rfl (xi_in (n := 24) (by decide) (by decide)) rfl ?_
  refine xi_iconst (pc' := 24) (v := 1) kc_171_23 rfl rfl ?_
  refine xi_cmt (pc' := 49) kc_171_24 rfl rfl ?_
  refine xi_iinc (pc' := 52) (x := 4) (v := 5) (lv' := [(3, .int 5), (2, .int 7), (1, .int 0), (0, .ref 80)]) kc_171_49 rfl rfl rfl rfl (xm_lt ml_171 rfl) ?_
  refine xi_goto (pc' := 12) kc_171_52 rfl ?_
  refine xi_iload_n (pc' := 13) (x := 5) kc_171_12 rfl rfl ?_
  refine xi_iload_n (pc' := 14) (x := 7) kc_171_13 rfl rfl ?_
  refine xi_cmf (pc' := 17) kc_171_14 rfl rfl ?_
  refine xi_aload_n (pc' := 18) (x := 80) kc_171_17 rfl rfl ?_
  refine xi_getfield (pc' := 21) (v := .ref 83) kc_171_18 rfl rfl rfl e80 rfl ?_
  refine xi_iload_n (pc' := 22) (x := 7) kc_171_21 rfl rfl ?_
  refine xi_iaload (pc' := 23) (v := 2) kc_171_22 rfl e83 (by decide) rfl (xi_in (n := 24) (by decide) (by decide)) rfl ?_
  refine xi_iconst (pc' := 24) (v := 1) kc_171_23 rfl rfl ?_
  refine xi_cmt (pc' := 49) kc_171_24 rfl rfl ?_
  refine xi_iinc (pc' := 52) (x := 5) (v := 6) (lv' := [(3, .int 6), (2, .int 7), (1, .int 0), (0, .ref 80)]) kc_171_49 rfl rfl rfl rfl (xm_lt ml_171 rfl) ?_
  refine xi_goto (pc' := 12) kc_171_52 rfl ?_
  refine xi_iload_n (pc' := 13) (x := 6) kc_171_12 rfl rfl ?_
  refine xi_iload_n (pc' := 14) (x := 7) kc_171_13 rfl rfl ?_
  refine xi_cmf (pc' := 17) kc_171_14 rfl rfl ?_
  refine xi_aload_n (pc' := 18) (x := 80) kc_171_17 rfl rfl ?_
  refine xi_getfield (pc' := 21) (v := .ref 83) kc_171_18 rfl rfl rfl e80 rfl ?_
  refine xi_iload_n (pc' := 22) (x := 7) kc_171_21 rfl rfl ?_
  refine xi_iaload (pc' := 23) (v := 2) kc_171_22 rfl e83 (by decide) rfl (xi_in (n := 24) (by decide) (by decide)) rfl ?_
  refine xi_iconst (pc' := 24) (v := 1) kc_171_23 rfl rfl ?_
  refine xi_cmt (pc' := 49) kc_171_24 rfl rfl ?_
  refine xi_iinc (pc' := 52) (x := 6) (v := 7) (lv' := [(3, .int 7), (2, .int 7), (1, .int 0), (0, .ref 80)]) kc_171_49 rfl rfl rfl rfl (xm_lt ml_171 rfl) ?_
  refine xi_goto (pc' := 12) kc_171_52 rfl ?_
  refine xi_iload_n (pc' := 13) (x := 7) kc_171_12 rfl rfl ?_
  refine xi_iload_n (pc' := 14) (x := 7) kc_171_13 rfl rfl ?_
  refine xi_cmt (pc' := 55) kc_171_14 rfl rfl ?_
  refine xi_iinc (pc' := 58) (x := 7) (v := 8) (lv' := [(2, .int 8), (3, .int 7), (1, .int 0), (0, .ref 80)]) kc_171_55 rfl rfl rfl rfl (xm_lt ml_171 rfl) ?_
  refine xi_goto (pc' := 4) kc_171_58 rfl ?_
  refine xi_iload_n (pc' := 5) (x := 8) kc_171_4 rfl rfl ?_
  refine xi_bipush (pc' := 7) (v := 24) kc_171_5 rfl rfl ?_
  refine xi_cmf (pc' := 10) kc_171_7 rfl rfl ?_
  refine xi_iconst (pc' := 11) (v := 0) kc_171_10 rfl rfl ?_
  refine xi_istore_n (pc' := 12) (lv' := [(3, .int 0), (2, .int 8), (1, .int 0), (0, .ref 80)]) kc_171_11 rfl rfl (xm_lt ml_171 rfl) ?_
  refine xi_iload_n (pc' := 13) (x := 0) kc_171_12 rfl rfl ?_
  refine xi_iload_n (pc' := 14) (x := 8) kc_171_13 rfl rfl ?_
  refine xi_cmf (pc' := 17) kc_171_14 rfl rfl ?_
  refine xi_aload_n (pc' := 18) (x := 80) kc_171_17 rfl rfl ?_
  refine xi_getfield (pc' := 21) (v := .ref 83) kc_171_18 rfl rfl rfl e80 rfl ?_
  refine xi_iload_n (pc' := 22) (x := 8) kc_171_21 rfl rfl ?_
  refine xi_iaload (pc' := 23) (v := 2) kc_171_22 rfl e83 (by decide) rfl (xi_in (n := 24) (by decide) (by decide)) rfl ?_
  refine xi_iconst (pc' := 24) (v := 1) kc_171_23 rfl rfl ?_
  refine xi_cmt (pc' := 49) kc_171_24 rfl rfl ?_
  refine xi_iinc (pc' := 52) (x := 0) (v := 1) (lv' := [(3, .int 1), (2, .int 8), (1, .int 0), (0, .ref 80)]) kc_171_49 rfl rfl rfl rfl (xm_lt ml_171 rfl) ?_
  refine xi_goto (pc' := 12) kc_171_52 rfl ?_
  refine xi_iload_n (pc' := 13) (x := 1) kc_171_12 rfl rfl ?_
  refine xi_iload_n (pc' := 14) (x := 8) kc_171_13 rfl rfl ?_
  refine xi_cmf (pc' := 17) kc_171_14 rfl rfl ?_
  refine xi_aload_n (pc' := 18) (x := 80) kc_171_17 rfl rfl ?_
  refine xi_getfield (pc' := 21) (v := .ref 83) kc_171_18 rfl rfl rfl e80 rfl ?_
  refine xi_iload_n (pc' := 22) (x := 8) kc_171_21 rfl rfl ?_
  refine xi_iaload (pc' := 23) (v := 2) kc_171_22 rfl e83 (by decide) rfl (xi_in (n := 24) (by decide) (by decide)) rfl ?_
  refine xi_iconst (pc' := 24) (v := 1) kc_171_23 rfl rfl ?_
  refine xi_cmt (pc' := 49) kc_171_24 rfl rfl ?_
  refine xi_iinc (pc' := 52) (x := 1) (v := 2) (lv' := [(3, .int 2), (2, .int 8), (1, .int 0), (0, .ref 80)]) kc_171_49 rfl rfl rfl rfl (xm_lt ml_171 rfl) ?_
  refine xi_goto (pc' := 12) kc_171_52 rfl ?_
  refine xi_iload_n (pc' := 13) (x := 2) kc_171_12 rfl rfl ?_
  refine xi_iload_n (pc' := 14) (x := 8) kc_171_13 rfl rfl ?_
  refine xi_cmf (pc' := 17) kc_171_14 rfl rfl ?_
  refine xi_aload_n (pc' := 18) (x := 80) kc_171_17 rfl rfl ?_
  refine xi_getfield (pc' := 21) (v := .ref 83) kc_171_18 rfl rfl rfl e80 rfl ?_
  refine xi_iload_n (pc' := 22) (x := 8) kc_171_21 rfl rfl ?_
  refine xi_iaload (pc' := 23) (v := 2) kc_171_22 rfl e83 (by decide) rfl (xi_in (n := 24) (by decide) (by decide)) rfl ?_
  refine xi_iconst (pc' := 24) (v := 1) kc_171_23 rfl rfl ?_
  refine xi_cmt (pc' := 49) kc_171_24 rfl rfl ?_
  refine xi_iinc (pc' := 52) (x := 2) (v := 3) (lv' := [(3, .int 3), (2, .int 8), (1, .int 0), (0, .ref 80)]) kc_171_49 rfl rfl rfl rfl (xm_lt ml_171 rfl) ?_
  refine xi_goto (pc' := 12) kc_171_52 rfl ?_
  refine xi_iload_n (pc' := 13) (x := 3) kc_171_12 rfl rfl ?_
  refine xi_iload_n (pc' := 14) (x := 8) kc_171_13 rfl rfl ?_
  refine xi_cmf (pc' := 17) kc_171_14 rfl rfl ?_
  refine xi_aload_n (pc' := 18) (x := 80) kc_171_17 rfl rfl ?_
  refine xi_getfield (pc' := 21) (v := .ref 83) kc_171_18 rfl rfl rfl e80 rfl ?_
  refine xi_iload_n (pc' := 22) (x := 8) kc_171_21 rfl rfl ?_
  refine xi_iaload (pc' := 23) (v := 2) kc_171_22 rfl e83 (by decide) rfl (xi_in (n := 24) (by decide) (by decide)) rfl ?_
  refine xi_iconst (pc' := 24) (v := 1) kc_171_23 rfl rfl ?_
  refine xi_cmt (pc' := 49) kc_171_24 rfl rfl ?_
  refine xi_iinc (pc' := 52) (x := 3) (v := 4) (lv' := [(3, .int 4), (2, .int 8), (1, .int 0), (0, .ref 80)]) kc_171_49 rfl rfl rfl rfl (xm_lt ml_171 rfl) ?_
  refine xi_goto (pc' := 12) kc_171_52 rfl ?_
  refine xi_iload_n (pc' := 13) (x := 4) kc_171_12 rfl rfl ?_
  refine xi_iload_n (pc' := 14) (x := 8) kc_171_13 rfl rfl ?_
  refine xi_cmf (pc' := 17) kc_171_14 rfl rfl ?_
  refine xi_aload_n (pc' := 18) (x := 80) kc_171_17 rfl rfl ?_
  refine xi_getfield (pc' := 21) (v := .ref 83) kc_171_18 rfl rfl rfl e80 rfl ?_
  refine xi_iload_n (pc' := 22) (x := 8) kc_171_21 rfl rfl ?_
  refine xi_iaload (pc' := 23) (v := 2) kc_171_22 rfl e83 (by decide) rfl (xi_in (n := 24) (by decide) (by decide)) rfl ?_
  refine xi_iconst (pc' := 24) (v := 1) kc_171_23 rfl rfl ?_
  refine xi_cmt (pc' := 49) kc_171_24 rfl rfl ?_
  refine xi_iinc (pc' := 52) (x := 4) (v := 5) (lv' := [(3, .int 5), (2, .int 8), (1, .int 0), (0, .ref 80)]) kc_171_49 rfl rfl rfl rfl (xm_lt ml_171 rfl) ?_
  refine xi_goto (pc' := 12) kc_171_52 rfl ?_
  refine xi_iload_n (pc' := 13) (x := 5) kc_171_12 rfl rfl ?_
  refine xi_iload_n (pc' := 14) (x := 8) kc_171_13 rfl rfl ?_
  refine xi_cmf (pc' := 17) kc_171_14 rfl rfl ?_
  refine xi_aload_n (pc' := 18) (x := 80) kc_171_17 rfl rfl ?_
  refine xi_getfield (pc' := 21) (v := .ref 83) kc_171_18 rfl rfl rfl e80 rfl ?_
  refine xi_iload_n (pc' := 22) (x := 8) kc_171_21 rfl rfl ?_
  refine xi_iaload (pc' := 23) (v := 2) kc_171_22 rfl e83 (by decide) rfl (xi_in (n := 24) (by decide) (by decide)) rfl ?_
  refine xi_iconst (pc' := 24) (v := 1) kc_171_23 rfl rfl ?_
  refine xi_cmt (pc' := 49) kc_171_24 rfl rfl ?_
  refine xi_iinc (pc' := 52) (x := 5) (v := 6) (lv' := [(3, .int 6), (2, .int 8), (1, .int 0), (0, .ref 80)]) kc_171_49 rfl rfl rfl rfl (xm_lt ml_171 rfl) ?_
  refine xi_goto (pc' := 12) kc_171_52 rfl ?_
  refine xi_iload_n (pc' := 13) (x := 6) kc_171_12 rfl rfl ?_
  refine xi_iload_n (pc' := 14) (x := 8) kc_171_13 rfl rfl ?_
  refine xi_cmf (pc' := 17) kc_171_14 rfl rfl ?_
  refine xi_aload_n (pc' := 18) (x := 80) kc_171_17 rfl rfl ?_
  refine xi_getfield (pc' := 21) (v := .ref 83) kc_171_18 rfl rfl rfl e80 rfl ?_
  refine xi_iload_n (pc' := 22) (x := 8) kc_171_21 rfl rfl ?_
  refine xi_iaload (pc' := 23) (v := 2) kc_171_22 rfl e83 (by decide) rfl (xi_in (n := 24) (by decide) (by decide)) rfl ?_
  refine xi_iconst (pc' := 24) (v := 1) kc_171_23 rfl rfl ?_
  refine xi_cmt (pc' := 49) kc_171_24 rfl rfl ?_
  refine xi_iinc (pc' := 52) (x := 6) (v := 7) (lv' := [(3, .int 7), (2, .int 8), (1, .int 0), (0, .ref 80)]) kc_171_49 rfl rfl rfl rfl (xm_lt ml_171 rfl) ?_
  refine xi_goto (pc' := 12) kc_171_52 rfl ?_
  refine xi_iload_n (pc' := 13) (x := 7) kc_171_12 rfl rfl ?_
  refine xi_iload_n (pc' := 14) (x := 8) kc_171_13 rfl rfl ?_
  refine xi_cmf (pc' := 17) kc_171_14 rfl rfl ?_
  refine xi_aload_n (pc' := 18) (x := 80) kc_171_17 rfl rfl ?_
  refine xi_getfield (pc' := 21) (v := .ref 83) kc_171_18 rfl rfl rfl e80 rfl ?_
  refine xi_iload_n (pc' := 22) (x := 8) kc_171_21 rfl rfl ?_
  refine xi_iaload (pc' := 23) (v := 2) kc_171_22 rfl e83 (by decide) rfl (xi_in (n := 24) (by decide) (by decide)) rfl ?_
  refine xi_iconst (pc' := 24) (v := 1) kc_171_23 rfl rfl ?_
  refine xi_cmt (pc' := 49) kc_171_24 rfl rfl ?_
  refine xi_iinc (pc' := 52) (x := 7) (v := 8) (lv' := [(3, .int 8), (2, .int 8), (1, .int 0), (0, .ref 80)]) kc_171_49 rfl rfl rfl rfl (xm_lt ml_171 rfl) ?_
  refine xi_goto (pc' := 12) kc_171_52 rfl ?_
  refine xi_iload_n (pc' := 13) (x := 8) kc_171_12 rfl rfl ?_
  refine xi_iload_n (pc' := 14) (x := 8) kc_171_13 rfl rfl ?_
  refine xi_cmt (pc' := 55) kc_171_14 rfl rfl ?_
  refine xi_iinc (pc' := 58) (x := 8) (v := 9) (lv' := [(2, .int 9), (3, .int 8), (1, .int 0), (0, .ref 80)]) kc_171_55 rfl rfl rfl rfl (xm_lt ml_171 rfl) ?_
  refine xi_goto (pc' := 4) kc_171_58 rfl ?_
  refine xi_iload_n (pc' := 5) (x := 9) kc_171_4 rfl rfl ?_
  refine xi_bipush (pc' := 7) (v := 24) kc_171_5 rfl rfl ?_
  refine xi_cmf (pc' := 10) kc_171_7 rfl rfl ?_
  refine xi_iconst (pc' := 11) (v := 0) kc_171_10 rfl rfl ?_
  refine xi_istore_n (pc' := 12) (lv' := [(3, .int 0), (2, .int 9), (1, .int 0), (0, .ref 80)]) kc_171_11 rfl rfl (xm_lt ml_171 rfl) ?_
  refine xi_iload_n (pc' := 13) (x := 0) kc_171_12 rfl rfl ?_
  refine xi_iload_n (pc' := 14) (x := 9) kc_171_13 rfl rfl ?_
  refine xi_cmf (pc' := 17) kc_171_14 rfl rfl ?_
  refine xi_aload_n (pc' := 18) (x := 80) kc_171_17 rfl rfl ?_
  refine xi_getfield (pc' := 21) (v := .ref 83) kc_171_18 rfl rfl rfl e80 rfl ?_
  refine xi_iload_n (pc' := 22) (x := 9) kc_171_21 rfl rfl ?_
  refine xi_iaload (pc' := 23) (v := 2) kc_171_22 rfl e83 (by decide) rfl (xi_in (n := 24) (by decide) (by decide)) rfl ?_
  refine xi_iconst (pc' := 24) (v := 1) kc_171_23 rfl rfl ?_
  refine xi_cmt (pc' := 49) kc_171_24 rfl rfl ?_
  refine xi_iinc (pc' := 52) (x := 0) (v := 1) (lv' := [(3, .int 1), (2, .int 9), (1, .int 0), (0, .ref 80)]) kc_171_49 rfl rfl rfl rfl (xm_lt ml_171 rfl) ?_
  refine xi_goto (pc' := 12) kc_171_52 rfl ?_
  refine xi_iload_n (pc' := 13) (x := 1) kc_171_12 rfl rfl ?_
  refine xi_iload_n (pc' := 14) (x := 9) kc_171_13 rfl rfl ?_
  refine xi_cmf (pc' := 17) kc_171_14 rfl rfl ?_
  refine xi_aload_n (pc' := 18) (x := 80) kc_171_17 rfl rfl ?_
  refine xi_getfield (pc' := 21) (v := .ref 83) kc_171_18 rfl rfl rfl e80 rfl ?_
  refine xi_iload_n (pc' := 22) (x := 9) kc_171_21 rfl rfl ?_
  refine xi_iaload (pc' := 23) (v := 2) kc_171_22 rfl e83 (by decide) rfl (xi_in (n := 24) (by decide) (by decide)) rfl ?_
  refine xi_iconst (pc' := 24) (v := 1) kc_171_23 rfl rfl ?_
  refine xi_cmt (pc' := 49) kc_171_24 rfl rfl ?_
  refine xi_iinc (pc' := 52) (x := 1) (v := 2) (lv' := [(3, .int 2), (2, .int 9), (1, .int 0), (0, .ref 80)]) kc_171_49 rfl rfl rfl rfl (xm_lt ml_171 rfl) ?_
  refine xi_goto (pc' := 12) kc_171_52 rfl ?_
  refine xi_iload_n (pc' := 13) (x := 2) kc_171_12 rfl rfl ?_
  refine xi_iload_n (pc' := 14) (x := 9) kc_171_13 rfl rfl ?_
  refine xi_cmf (pc' := 17) kc_171_14 rfl rfl ?_
  refine xi_aload_n (pc' := 18) (x := 80) kc_171_17 rfl rfl ?_
  refine xi_getfield (pc' := 21) (v := .ref 83) kc_171_18 rfl rfl rfl e80 rfl ?_
  refine xi_iload_n (pc' := 22) (x := 9) kc_171_21 rfl rfl ?_
  refine xi_iaload (pc' := 23) (v := 2) kc_171_22 rfl e83 (by decide) rfl (xi_in (n := 24) (by decide) (by decide)) rfl ?_
  refine xi_iconst (pc' := 24) (v := 1) kc_171_23 rfl rfl ?_
  refine xi_cmt (pc' := 49) kc_171_24 rfl rfl ?_
  refine xi_iinc (pc' := 52) (x := 2) (v := 3) (lv' := [(3, .int 3), (2, .int 9), (1, .int 0), (0, .ref 80)]) kc_171_49 rfl rfl rfl rfl (xm_lt ml_171 rfl) ?_
  refine xi_goto (pc' := 12) kc_171_52 rfl ?_
  refine xi_iload_n (pc' := 13) (x := 3) kc_171_12 rfl rfl ?_
  refine xi_iload_n (pc' := 14) (x := 9) kc_171_13 rfl rfl ?_
  refine xi_cmf (pc' := 17) kc_171_14 rfl rfl ?_
  refine xi_aload_n (pc' := 18) (x := 80) kc_171_17 rfl rfl ?_
  refine xi_getfield (pc' := 21) (v := .ref 83) kc_171_18 rfl rfl rfl e80 rfl ?_
  refine xi_iload_n (pc' := 22) (x := 9) kc_171_21 rfl rfl ?_
  refine xi_iaload (pc' := 23) (v := 2) kc_171_22 rfl e83 (by decide) rfl (xi_in (n := 24) (by decide) (by decide)) rfl ?_
  refine xi_iconst (pc' := 24) (v := 1) kc_171_23 rfl rfl ?_
  refine xi_cmt (pc' := 49) kc_171_24 rfl rfl ?_
  refine xi_iinc (pc' := 52) (x := 3) (v := 4) (lv' := [(3, .int 4), (2, .int 9), (1, .int 0), (0, .ref 80)]) kc_171_49 rfl rfl rfl rfl (xm_lt ml_171 rfl) ?_
  refine xi_goto (pc' := 12) kc_171_52 rfl ?_
  refine xi_iload_n (pc' := 13) (x := 4) kc_171_12 rfl rfl ?_
  refine xi_iload_n (pc' := 14) (x := 9) kc_171_13 rfl rfl ?_
  refine xi_cmf (pc' := 17) kc_171_14 rfl rfl ?_
  refine xi_aload_n (pc' := 18) (x := 80) kc_171_17 rfl rfl ?_
  refine xi_getfield (pc' := 21) (v := .ref 83) kc_171_18 rfl rfl rfl e80 rfl ?_
  refine xi_iload_n (pc' := 22) (x := 9) kc_171_21 rfl rfl ?_
  refine xi_iaload (pc' := 23) (v := 2) kc_171_22 rfl e83 (by decide) rfl (xi_in (n := 24) (by decide) (by decide)) rfl ?_
  refine xi_iconst (pc' := 24) (v := 1) kc_171_23 rfl rfl ?_
  refine xi_cmt (pc' := 49) kc_171_24 rfl rfl ?_
  refine xi_iinc (pc' := 52) (x := 4) (v := 5) (lv' := [(3, .int 5), (2, .int 9), (1, .int 0), (0, .ref 80)]) kc_171_49 rfl rfl rfl rfl (xm_lt ml_171 rfl) ?_
  refine xi_goto (pc' := 12) kc_171_52 rfl ?_
  refine xi_iload_n (pc' := 13) (x := 5) kc_171_12 rfl rfl ?_
  refine xi_iload_n (pc' := 14) (x := 9) kc_171_13 rfl rfl ?_
  refine xi_cmf (pc' := 17) kc_171_14 rfl rfl ?_
  refine xi_aload_n (pc' := 18) (x := 80) kc_171_17 rfl rfl ?_
  refine xi_getfield (pc' := 21) (v := .ref 83) kc_171_18 rfl rfl rfl e80 rfl ?_
  refine xi_iload_n (pc' := 22) (x := 9) kc_171_21 rfl rfl ?_
  refine xi_iaload (pc' := 23) (v := 2) kc_171_22 rfl e83 (by decide) rfl (xi_in (n := 24) (by decide) (by decide)) rfl ?_
  refine xi_iconst (pc' := 24) (v := 1) kc_171_23 rfl rfl ?_
  refine xi_cmt (pc' := 49) kc_171_24 rfl rfl ?_
  refine xi_iinc (pc' := 52) (x := 5) (v := 6) (lv' := [(3, .int 6), (2, .int 9), (1, .int 0), (0, .ref 80)]) kc_171_49 rfl rfl rfl rfl (xm_lt ml_171 rfl) ?_
  refine xi_goto (pc' := 12) kc_171_52 rfl ?_
  refine xi_iload_n (pc' := 13) (x := 6) kc_171_12 rfl rfl ?_
  refine xi_iload_n (pc' := 14) (x := 9) kc_171_13 rfl rfl ?_
  refine xi_cmf (pc' := 17) kc_171_14 rfl rfl ?_
  refine xi_aload_n (pc' := 18) (x := 80) kc_171_17 rfl rfl ?_
  refine xi_getfield (pc' := 21) (v := .ref 83) kc_171_18 rfl rfl rfl e80 rfl ?_
  refine xi_iload_n (pc' := 22) (x := 9) kc_171_21 rfl rfl ?_
  refine xi_iaload (pc' := 23) (v := 2) kc_171_22 rfl e83 (by decide) rfl (xi_in (n := 24) (by decide) (by decide)) rfl ?_
  refine xi_iconst (pc' := 24) (v := 1) kc_171_23 rfl rfl ?_
  refine xi_cmt (pc' := 49) kc_171_24 rfl rfl ?_
  refine xi_iinc (pc' := 52) (x := 6) (v := 7) (lv' := [(3, .int 7), (2, .int 9), (1, .int 0), (0, .ref 80)]) kc_171_49 rfl rfl rfl rfl (xm_lt ml_171 rfl) ?_
  refine xi_goto (pc' := 12) kc_171_52 rfl ?_
  refine xi_iload_n (pc' := 13) (x := 7) kc_171_12 rfl rfl ?_
  refine xi_iload_n (pc' := 14) (x := 9) kc_171_13 rfl rfl ?_
  refine xi_cmf (pc' := 17) kc_171_14 rfl rfl ?_
  refine xi_aload_n (pc' := 18) (x := 80) kc_171_17 rfl rfl ?_
  refine xi_getfield (pc' := 21) (v := .ref 83) kc_171_18 rfl rfl rfl e80 rfl ?_
  refine xi_iload_n (pc' := 22) (x := 9) kc_171_21 rfl rfl ?_
  refine xi_iaload (pc' := 23) (v := 2) kc_171_22 rfl e83 (by decide) rfl (xi_in (n := 24) (by decide) (by decide)) rfl ?_
  refine xi_iconst (pc' := 24) (v := 1) kc_171_23 rfl rfl ?_
  refine xi_cmt (pc' := 49) kc_171_24 rfl rfl ?_
  refine xi_iinc (pc' := 52) (x := 7) (v := 8) (lv' := [(3, .int 8), (2, .int 9), (1, .int 0), (0, .ref 80)]) kc_171_49 rfl rfl rfl rfl (xm_lt ml_171 rfl) ?_
  refine xi_goto (pc' := 12) kc_171_52 rfl ?_
  refine xi_iload_n (pc' := 13) (x := 8) kc_171_12 rfl rfl ?_
  refine xi_iload_n (pc' := 14) (x := 9) kc_171_13 rfl rfl ?_
  refine xi_cmf (pc' := 17) kc_171_14 rfl rfl ?_
  refine xi_aload_n (pc' := 18) (x := 80) kc_171_17 rfl rfl ?_
  refine xi_getfield (pc' := 21) (v := .ref 83) kc_171_18 rfl rfl rfl e80 rfl ?_
  refine xi_iload_n (pc' := 22) (x := 9) kc_171_21 rfl rfl ?_
  refine xi_iaload (pc' := 23) (v := 2) kc_171_22 rfl e83 (by decide) rfl (xi_in (n := 24) (by decide) (by decide)) rfl ?_
  refine xi_iconst (pc' := 24) (v := 1) kc_171_23 rfl rfl ?_
  refine xi_cmt (pc' := 49) kc_171_24 rfl rfl ?_
  refine xi_iinc (pc' := 52) (x := 8) (v := 9) (lv' := [(3, .int 9), (2, .int 9), (1, .int 0), (0, .ref 80)]) kc_171_49 rfl rfl rfl rfl (xm_lt ml_171 rfl) ?_
  refine xi_goto (pc' := 12) kc_171_52 rfl ?_
  refine xi_iload_n (pc' := 13) (x := 9) kc_171_12 rfl rfl ?_
  refine xi_iload_n (pc' := 14) (x := 9) kc_171_13 rfl rfl ?_
  refine xi_cmt (pc' := 55) kc_171_14 rfl rfl ?_
  refine xi_iinc (pc' := 58) (x := 9) (v := 10) (lv' := [(2, .int 10), (3, .int 9), (1, .int 0), (0, .ref 80)]) kc_171_55 rfl rfl rfl rfl (xm_lt ml_171 rfl) ?_
  refine xi_goto (pc' := 4) kc_171_58 rfl ?_
  refine xi_iload_n (pc' := 5) (x := 10) kc_171_4 rfl rfl ?_
  refine xi_bipush (pc' := 7) (v := 24) kc_171_5 rfl rfl ?_
  refine xi_cmf (pc' := 10) kc_171_7 rfl rfl ?_
  refine xi_iconst (pc' := 11) (v := 0) kc_171_10 rfl rfl ?_
  refine xi_istore_n (pc' := 12) (lv' := [(3, .int 0), (2, .int 10), (1, .int 0), (0, .ref 80)]) kc_171_11 rfl rfl (xm_lt ml_171 rfl) ?_
  refine xi_iload_n (pc' := 13) (x := 0) kc_171_12 rfl rfl ?_
  refine xi_iload_n (pc' := 14) (x := 10) kc_171_13 rfl rfl ?_
  refine xi_cmf (pc' := 17) kc_171_14 rfl rfl ?_
  refine xi_aload_n (pc' := 18) (x := 80) kc_171_17 rfl rfl ?_
  refine xi_getfield (pc' := 21) (v := .ref 83) kc_171_18 rfl rfl rfl e80 rfl ?_
  refine xi_iload_n (pc' := 22) (x := 10) kc_171_21 rfl rfl ?_
  refine xi_iaload (pc' := 23) (v := 2) kc_171_22 rfl e83 (by decide) rfl (xi_in (n := 24) (by decide) (by decide)) rfl ?_
  refine xi_iconst (pc' := 24) (v := 1) kc_171_23 rfl rfl ?_
  refine xi_cmt (pc' := 49) kc_171_24 rfl rfl ?_
  refine xi_iinc (pc' := 52) (x := 0) (v := 1) (lv' := [(3, .int 1), (2, .int 10), (1, .int 0), (0, .ref 80)]) kc_171_49 rfl rfl rfl rfl (xm_lt ml_171 rfl) ?_
  refine xi_goto (pc' := 12) kc_171_52 rfl ?_
  refine xi_iload_n (pc' := 13) (x := 1) kc_171_12 rfl rfl ?_
  refine xi_iload_n (pc' := 14) (x := 10) kc_171_13 rfl rfl ?_
  refine xi_cmf (pc' := 17) kc_171_14 rfl rfl ?_
  refine xi_aload_n (pc' := 18) (x := 80) kc_171_17 rfl rfl ?_
  refine xi_getfield (pc' := 21) (v := .ref 83) kc_171_18 rfl rfl rfl e80 rfl ?_
  refine xi_iload_n (pc' := 22) (x := 10) kc_171_21 rfl rfl ?_
  refine xi_iaload (pc' := 23) (v := 2) kc_171_22 rfl e83 (by decide) rfl (xi_in (n := 24) (by decide) (by decide)) rfl ?_
  refine xi_iconst (pc' := 24) (v := 1) kc_171_23 rfl rfl ?_
  refine xi_cmt (pc' := 49) kc_171_24 rfl rfl ?_
  refine xi_iinc (pc' := 52) (x := 1) (v := 2) (lv' := [(3, .int 2), (2, .int 10), (1, .int 0), (0, .ref 80)]) kc_171_49 rfl rfl rfl rfl (xm_lt ml_171 rfl) ?_
  refine xi_goto (pc' := 12) kc_171_52 rfl ?_
  refine xi_iload_n (pc' := 13) (x := 2) kc_171_12 rfl rfl ?_
  refine xi_iload_n (pc' := 14) (x := 10) kc_171_13 rfl rfl ?_
  refine xi_cmf (pc' := 17) kc_171_14 rfl rfl ?_
  refine xi_aload_n (pc' := 18) (x := 80) kc_171_17 rfl rfl ?_
  refine xi_getfield (pc' := 21) (v := .ref 83) kc_171_18 rfl rfl rfl e80 rfl ?_
  refine xi_iload_n (pc' := 22) (x := 10) kc_171_21 rfl rfl ?_
  refine xi_iaload (pc' := 23) (v := 2) kc_171_22 rfl e83 (by decide) rfl (xi_in (n := 24) (by decide) (by decide)) rfl ?_
  refine xi_iconst (pc' := 24) (v := 1) kc_171_23 rfl rfl ?_
  refine xi_cmt (pc' := 49) kc_171_24 rfl rfl ?_
  refine xi_iinc (pc' := 52) (x := 2) (v := 3) (lv' := [(3, .int 3), (2, .int 10), (1, .int 0), (0, .ref 80)]) kc_171_49 rfl rfl rfl rfl (xm_lt ml_171 rfl) ?_
  refine xi_goto (pc' := 12) kc_171_52 rfl ?_
  refine xi_iload_n (pc' := 13) (x := 3) kc_171_12 rfl rfl ?_
  refine xi_iload_n (pc' := 14) (x := 10) kc_171_13 rfl rfl ?_
  refine xi_cmf (pc' := 17) kc_171_14 rfl rfl ?_
  refine xi_aload_n (pc' := 18) (x := 80) kc_171_17 rfl rfl ?_
  refine xi_getfield (pc' := 21) (v := .ref 83) kc_171_18 rfl rfl rfl e80 rfl ?_
  refine xi_iload_n (pc' := 22) (x := 10) kc_171_21 rfl rfl ?_
  refine xi_iaload (pc' := 23) (v := 2) kc_171_22 rfl e83 (by decide) rfl (xi_in (n := 24) (by decide) (by decide)) rfl ?_
  refine xi_iconst (pc' := 24) (v := 1) kc_171_23 rfl rfl ?_
  refine xi_cmt (pc' := 49) kc_171_24 rfl rfl ?_
  refine xi_iinc (pc' := 52) (x := 3) (v := 4) (lv' := [(3, .int 4), (2, .int 10), (1, .int 0), (0, .ref 80)]) kc_171_49 rfl rfl rfl rfl (xm_lt ml_171 rfl) ?_
  refine xi_goto (pc' := 12) kc_171_52 rfl ?_
  refine xi_iload_n (pc' := 13) (x := 4) kc_171_12 rfl rfl ?_
  refine xi_iload_n (pc' := 14) (x := 10) kc_171_13 rfl rfl ?_
  refine xi_cmf (pc' := 17) kc_171_14 rfl rfl ?_
  refine xi_aload_n (pc' := 18) (x := 80) kc_171_17 rfl rfl ?_
  refine xi_getfield (pc' := 21) (v := .ref 83) kc_171_18 rfl rfl rfl e80 rfl ?_
  refine xi_iload_n (pc' := 22) (x := 10) kc_171_21 rfl rfl ?_
  refine xi_iaload (pc' := 23) (v := 2) kc_171_22 rfl e83 (by decide) rfl (xi_in (n := 24) (by decide) (by decide)) rfl ?_
  refine xi_iconst (pc' := 24) (v := 1) kc_171_23 rfl rfl ?_
  refine xi_cmt (pc' := 49) kc_171_24 rfl rfl ?_
  refine xi_iinc (pc' := 52) (x := 4) (v := 5) (lv' := [(3, .int 5), (2, .int 10), (1, .int 0), (0, .ref 80)]) kc_171_49 rfl rfl rfl rfl (xm_lt ml_171 rfl) ?_
  refine xi_goto (pc' := 12) kc_171_52 rfl ?_
  refine xi_iload_n (pc' := 13) (x := 5) kc_171_12 rfl rfl ?_
  refine xi_iload_n (pc' := 14) (x := 10) kc_171_13 rfl rfl ?_
  refine xi_cmf (pc' := 17) kc_171_14 rfl rfl ?_
  refine xi_aload_n (pc' := 18) (x := 80) kc_171_17 rfl rfl ?_
  refine xi_getfield (pc' := 21) (v := .ref 83) kc_171_18 rfl rfl rfl e80 rfl ?_
  refine xi_iload_n (pc' := 22) (x := 10) kc_171_21 rfl rfl ?_
  refine xi_iaload (pc' := 23) (v := 2) kc_171_22 rfl e83 (by decide) rfl (xi_in (n := 24) (by decide) (by decide)) rfl ?_
  refine xi_iconst (pc' := 24) (v := 1) kc_171_23 rfl rfl ?_
  refine xi_cmt (pc' := 49) kc_171_24 rfl rfl ?_
  refine xi_iinc (pc' := 52) (x := 5) (v := 6) (lv' := [(3, .int 6), (2, .int 10), (1, .int 0), (0, .ref 80)]) kc_171_49 rfl rfl rfl rfl (xm_lt ml_171 rfl) ?_
  refine xi_goto (pc' := 12) kc_171_52 rfl ?_
  refine xi_iload_n (pc' := 13) (x := 6) kc_171_12 rfl rfl ?_
  refine xi_iload_n (pc' := 14) (x := 10) kc_171_13 rfl rfl ?_
  refine xi_cmf (pc' := 17) kc_171_14 rfl rfl ?_
  refine xi_aload_n (pc' := 18) (x := 80) kc_171_17 rfl rfl ?_
  refine xi_getfield (pc' := 21) (v := .ref 83) kc_171_18 rfl rfl rfl e80 rfl ?_
  refine xi_iload_n (pc' := 22) (x := 10) kc_171_21 rfl rfl ?_
  refine xi_iaload (pc' := 23) (v := 2) kc_171_22 rfl e83 (by decide) rfl (xi_in (n := 24) (by decide) (by decide)) rfl ?_
  refine xi_iconst (pc' := 24) (v := 1) kc_171_23 rfl rfl ?_
  refine xi_cmt (pc' := 49) kc_171_24 rfl rfl ?_
  refine xi_iinc (pc' := 52) (x := 6) (v := 7) (lv' := [(3, .int 7), (2, .int 10), (1, .int 0), (0, .ref 80)]) kc_171_49 rfl rfl rfl rfl (xm_lt ml_171 rfl) ?_
  refine xi_goto (pc' := 12) kc_171_52 rfl ?_
  refine xi_iload_n (pc' := 13) (x := 7) kc_171_12 rfl rfl ?_
  refine xi_iload_n (pc' := 14) (x := 10) kc_171_13 rfl rfl ?_
  refine xi_cmf (pc' := 17) kc_171_14 rfl rfl ?_
  refine xi_aload_n (pc' := 18) (x := 80) kc_171_17 rfl rfl ?_
  refine xi_getfield (pc' := 21) (v := .ref 83) kc_171_18 rfl rfl rfl e80 rfl ?_
  refine xi_iload_n (pc' := 22) (x := 10) kc_171_21 rfl rfl ?_
  refine xi_iaload (pc' := 23) (v := 2) kc_171_22 rfl e83 (by decide) rfl (xi_in (n := 24) (by decide) (by decide)) rfl ?_
  refine xi_iconst (pc' := 24) (v := 1) kc_171_23 rfl rfl ?_
  refine xi_cmt (pc' := 49) kc_171_24 rfl rfl ?_
  refine xi_iinc (pc' := 52) (x := 7) (v := 8) (lv' := [(3, .int 8), (2, .int 10), (1, .int 0), (0, .ref 80)]) kc_171_49 rfl rfl rfl rfl (xm_lt ml_171 rfl) ?_
  refine xi_goto (pc' := 12) kc_171_52 rfl ?_
  refine xi_iload_n (pc' := 13) (x := 8) kc_171_12 rfl rfl ?_
  refine xi_iload_n (pc' := 14) (x := 10) kc_171_13 rfl rfl ?_
  refine xi_cmf (pc' := 17) kc_171_14 rfl rfl ?_
  refine xi_aload_n (pc' := 18) (x := 80) kc_171_17 rfl rfl ?_
  refine xi_getfield (pc' := 21) (v := .ref 83) kc_171_18 rfl rfl rfl e80 rfl ?_
  refine xi_iload_n (pc' := 22) (x := 10) kc_171_21 rfl rfl ?_
  refine xi_iaload (pc' := 23) (v := 2) kc_171_22 rfl e83 (by decide) rfl (xi_in (n := 24) (by decide) (by decide)) rfl ?_
  refine xi_iconst (pc' := 24) (v := 1) kc_171_23 rfl rfl ?_
  refine xi_cmt (pc' := 49) kc_171_24 rfl rfl ?_
  refine xi_iinc (pc' := 52) (x := 8) (v := 9) (lv' := [(3, .int 9), (2, .int 10), (1, .int 0), (0, .ref 80)]) kc_171_49 rfl rfl rfl rfl (xm_lt ml_171 rfl) ?_
  refine xi_goto (pc' := 12) kc_171_52 rfl ?_
  refine xi_iload_n (pc' := 13) (x := 9) kc_171_12 rfl rfl ?_
  refine xi_iload_n (pc' := 14) (x := 10) kc_171_13 rfl rfl ?_
  refine xi_cmf (pc' := 17) kc_171_14 rfl rfl ?_
  refine xi_aload_n (pc' := 18) (x := 80) kc_171_17 rfl rfl ?_
  refine xi_getfield (pc' := 21) (v := .ref 83) kc_171_18 rfl rfl rfl e80 rfl ?_
  refine xi_iload_n (pc' := 22) (x := 10) kc_171_21 rfl rfl ?_
  refine xi_iaload (pc' := 23) (v := 2) kc_171_22 rfl e83 (by decide) rfl (xi_in (n := 24) (by decide) (by decide)) rfl ?_
  refine xi_iconst (pc' := 24) (v := 1) kc_171_23 rfl rfl ?_
  refine xi_cmt (pc' := 49) kc_171_24 rfl rfl ?_
  refine xi_iinc (pc' := 52) (x := 9) (v := 10) (lv' := [(3, .int 10), (2, .int 10), (1, .int 0), (0, .ref 80)]) kc_171_49 rfl rfl rfl rfl (xm_lt ml_171 rfl) ?_
  refine xi_goto (pc' := 12) kc_171_52 rfl ?_
  refine xi_iload_n (pc' := 13) (x := 10) kc_171_12 rfl rfl ?_
  refine xi_iload_n (pc' := 14) (x := 10) kc_171_13 rfl rfl ?_
  refine xi_cmt (pc' := 55) kc_171_14 rfl rfl ?_
  refine xi_iinc (pc' := 58) (x := 10) (v := 11) (lv' := [(2, .int 11), (3, .int 10), (1, .int 0), (0, .ref 80)]) kc_171_55 rfl rfl rfl rfl (xm_lt ml_171 rfl) ?_
  refine xi_goto (pc' := 4) kc_171_58 rfl ?_
  refine xi_iload_n (pc' := 5) (x := 11) kc_171_4 rfl rfl ?_
  refine xi_bipush (pc' := 7) (v := 24) kc_171_5 rfl rfl ?_
  refine xi_cmf (pc' := 10) kc_171_7 rfl rfl ?_
  refine xi_iconst (pc' := 11) (v := 0) kc_171_10 rfl rfl ?_
  refine xi_istore_n (pc' := 12) (lv' := [(3, .int 0), (2, .int 11), (1, .int 0), (0, .ref 80)]) kc_171_11 rfl rfl (xm_lt ml_171 rfl) ?_
  refine xi_iload_n (pc' := 13) (x := 0) kc_171_12 rfl rfl ?_
  refine xi_iload_n (pc' := 14) (x := 11) kc_171_13 rfl rfl ?_
  refine xi_cmf (pc' := 17) kc_171_14 rfl rfl ?_
  refine xi_aload_n (pc' := 18) (x := 80) kc_171_17 rfl rfl ?_
  refine xi_getfield (pc' := 21) (v := .ref 83) kc_171_18 rfl rfl rfl e80 rfl ?_
  refine xi_iload_n (pc' := 22) (x := 11) kc_171_21 rfl rfl ?_
  refine xi_iaload (pc' := 23) (v := 2) kc_171_22 rfl e83 (by decide) rfl (xi_in (n := 24) (by decide) (by decide)) rfl ?_
  refine xi_iconst (pc' := 24) (v := 1) kc_171_23 rfl rfl ?_
  refine xi_cmt (pc' := 49) kc_171_24 rfl rfl ?_
  refine xi_iinc (pc' := 52) (x := 0) (v := 1) (lv' := [(3, .int 1), (2, .int 11), (1, .int 0), (0, .ref 80)]) kc_171_49 rfl rfl rfl rfl (xm_lt ml_171 rfl) ?_
  refine xi_goto (pc' := 12) kc_171_52 rfl ?_
  refine xi_iload_n (pc' := 13) (x := 1) kc_171_12 rfl rfl ?_
  refine xi_iload_n (pc' := 14) (x := 11) kc_171_13 rfl rfl ?_
  refine xi_cmf (pc' := 17) kc_171_14 rfl rfl ?_
  refine xi_aload_n (pc' := 18) (x := 80) kc_171_17 rfl rfl ?_
  refine xi_getfield (pc' := 21) (v := .ref 83) kc_171_18 rfl rfl rfl e80 rfl ?_
  refine xi_iload_n (pc' := 22) (x := 11) kc_171_21 rfl rfl ?_
  refine xi_iaload (pc' := 23) (v := 2) kc_171_22 rfl e83 (by decide) rfl (xi_in (n := 24) (by decide) (by decide)) rfl ?_
  refine xi_iconst (pc' := 24) (v := 1) kc_171_23 rfl rfl ?_
  refine xi_cmt (pc' := 49) kc_171_24 rfl rfl ?_
  refine xi_iinc (pc' := 52) (x := 1) (v := 2) (lv' := [(3, .int 2), (2, .int 11), (1, .int 0), (0, .ref 80)]) kc_171_49 rfl rfl rfl rfl (xm_lt ml_171 rfl) ?_
  refine xi_goto (pc' := 12) kc_171_52 rfl ?_
  refine xi_iload_n (pc' := 13) (x := 2) kc_171_12 rfl rfl ?_
  refine xi_iload_n (pc' := 14) (x := 11) kc_171_13 rfl rfl ?_
  refine xi_cmf (pc' := 17) kc_171_14 rfl rfl ?_
  refine xi_aload_n (pc' := 18) (x := 80) kc_171_17 rfl rfl ?_
  refine xi_getfield (pc' := 21) (v := .ref 83) kc_171_18 rfl rfl rfl e80 rfl ?_
  refine xi_iload_n (pc' := 22) (x := 11) kc_171_21 rfl rfl ?_
  refine xi_iaload (pc' := 23) (v := 2) kc_171_22 rfl e83 (by decide) rfl (xi_in (n := 24) (by decide) (by decide)) rfl ?_
  refine xi_iconst (pc' := 24) (v := 1) kc_171_23 rfl rfl ?_
  refine xi_cmt (pc' := 49) kc_171_24 rfl rfl ?_
  refine xi_iinc (pc' := 52) (x := 2) (v := 3) (lv' := [(3, .int 3), (2, .int 11), (1, .int 0), (0, .ref 80)]) kc_171_49 rfl rfl rfl rfl (xm_lt ml_171 rfl) ?_
  refine xi_goto (pc' := 12) kc_171_52 rfl ?_
  refine xi_iload_n (pc' := 13) (x := 3) kc_171_12 rfl rfl ?_
  refine xi_iload_n (pc' := 14) (x := 11) kc_171_13 rfl rfl ?_
  refine xi_cmf (pc' := 17) kc_171_14 rfl rfl ?_
  refine xi_aload_n (pc' := 18) (x := 80) kc_171_17 rfl rfl ?_
  refine xi_getfield (pc' := 21) (v := .ref 83) kc_171_18 rfl rfl rfl e80 rfl ?_
  refine xi_iload_n (pc' := 22) (x := 11) kc_171_21 rfl rfl ?_
  refine xi_iaload (pc' := 23) (v := 2) kc_171_22 rfl e83 (by decide) rfl (xi_in (n := 24) (by decide) (by decide)) rfl ?_
  refine xi_iconst (pc' := 24) (v := 1) kc_171_23 rfl rfl ?_
  refine xi_cmt (pc' := 49) kc_171_24 rfl rfl ?_
  refine xi_iinc (pc' := 52) (x := 3) (v := 4) (lv' := [(3, .int 4), (2, .int 11), (1, .int 0), (0, .ref 80)]) kc_171_49 rfl rfl rfl rfl (xm_lt ml_171 rfl) ?_
  refine xi_goto (pc' := 12) kc_171_52 rfl ?_
  refine xi_iload_n (pc' := 13) (x := 4) kc_171_12 rfl rfl ?_
  refine xi_iload_n (pc' := 14) (x := 11) kc_171_13 rfl rfl ?_
  refine xi_cmf (pc' := 17) kc_171_14 rfl rfl ?_
  refine xi_aload_n (pc' := 18) (x := 80) kc_171_17 rfl rfl ?_
  refine xi_getfield (pc' := 21) (v := .ref 83) kc_171_18 rfl rfl rfl e80 rfl ?_
  refine xi_iload_n (pc' := 22) (x := 11) kc_171_21 rfl rfl ?_
  refine xi_iaload (pc' := 23) (v := 2) kc_171_22 rfl e83 (by decide) rfl (xi_in (n := 24) (by decide) (by decide)) rfl ?_
  refine xi_iconst (pc' := 24) (v := 1) kc_171_23 rfl rfl ?_
  refine xi_cmt (pc' := 49) kc_171_24 rfl rfl ?_
  refine xi_iinc (pc' := 52) (x := 4) (v := 5) (lv' := [(3, .int 5), (2, .int 11), (1, .int 0), (0, .ref 80)]) kc_171_49 rfl rfl rfl rfl (xm_lt ml_171 rfl) ?_
  refine xi_goto (pc' := 12) kc_171_52 rfl ?_
  refine xi_iload_n (pc' := 13) (x := 5) kc_171_12 rfl rfl ?_
  refine xi_iload_n (pc' := 14) (x := 11) kc_171_13 rfl rfl ?_
  refine xi_cmf (pc' := 17) kc_171_14 rfl rfl ?_
  refine xi_aload_n (pc' := 18) (x := 80) kc_171_17 rfl rfl ?_
  refine xi_getfield (pc' := 21) (v := .ref 83) kc_171_18 rfl rfl rfl e80 rfl ?_
  refine xi_iload_n (pc' := 22) (x := 11) kc_171_21 rfl rfl ?_
  refine xi_iaload (pc' := 23) (v := 2) kc_171_22 rfl e83 (by decide) rfl (xi_in (n := 24) (by decide) (by decide)) rfl ?_
  refine xi_iconst (pc' := 24) (v := 1) kc_171_23 rfl rfl ?_
  refine xi_cmt (pc' := 49) kc_171_24 rfl rfl ?_
  refine xi_iinc (pc' := 52) (x := 5) (v := 6) (lv' := [(3, .int 6), (2, .int 11), (1, .int 0), (0, .ref 80)]) kc_171_49 rfl rfl rfl rfl (xm_lt ml_171 rfl) ?_
  refine xi_goto (pc' := 12) kc_171_52 rfl ?_
  refine xi_iload_n (pc' := 13) (x := 6) kc_171_12 rfl rfl ?_
  refine xi_iload_n (pc' := 14) (x := 11) kc_171_13 rfl rfl ?_
  refine xi_cmf (pc' := 17) kc_171_14 rfl rfl ?_
  refine xi_aload_n (pc' := 18) (x := 80) kc_171_17 rfl rfl ?_
  refine xi_getfield (pc' := 21) (v := .ref 83) kc_171_18 rfl rfl rfl e80 rfl ?_
  refine xi_iload_n (pc' := 22) (x := 11) kc_171_21 rfl rfl ?_
  refine xi_iaload (pc' := 23) (v := 2) kc_171_22 rfl e83 (by decide) rfl (xi_in (n := 24) (by decide) (by decide)) rfl ?_
  refine xi_iconst (pc' := 24) (v := 1) kc_171_23 rfl rfl ?_
  refine xi_cmt (pc' := 49) kc_171_24 rfl rfl ?_
  refine xi_iinc (pc' := 52) (x := 6) (v := 7) (lv' := [(3, .int 7), (2, .int 11), (1, .int 0), (0, .ref 80)]) kc_171_49 rfl rfl rfl rfl (xm_lt ml_171 rfl) ?_
  refine xi_goto (pc' := 12) kc_171_52 rfl ?_
  refine xi_iload_n (pc' := 13) (x := 7) kc_171_12 rfl rfl ?_
  refine xi_iload_n (pc' := 14) (x := 11) kc_171_13 rfl rfl ?_
  refine xi_cmf (pc' := 17) kc_171_14 rfl rfl ?_
  refine xi_aload_n (pc' := 18) (x := 80) kc_171_17 rfl rfl ?_
  refine xi_getfield (pc' := 21) (v := .ref 83) kc_171_18 rfl rfl rfl e80 rfl ?_
  refine xi_iload_n (pc' := 22) (x := 11) kc_171_21 rfl rfl ?_
  refine xi_iaload (pc' := 23) (v := 2) kc_171_22 rfl e83 (by decide) rfl (xi_in (n := 24) (by decide) (by decide)) rfl ?_
  refine xi_iconst (pc' := 24) (v := 1) kc_171_23 rfl rfl ?_
  refine xi_cmt (pc' := 49) kc_171_24 rfl rfl ?_
  refine xi_iinc (pc' := 52) (x := 7) (v := 8) (lv' := [(3, .int 8), (2, .int 11), (1, .int 0), (0, .ref 80)]) kc_171_49 rfl rfl rfl rfl (xm_lt ml_171 rfl) ?_
  refine xi_goto (pc' := 12) kc_171_52 rfl ?_
  refine xi_iload_n (pc' := 13) (x := 8) kc_171_12 rfl rfl ?_
  refine xi_iload_n (pc' := 14) (x := 11) kc_171_13 rfl rfl ?_
  refine xi_cmf (pc' := 17) kc_171_14 rfl rfl ?_
  refine xi_aload_n (pc' := 18) (x := 80) kc_171_17 rfl rfl ?_
  refine xi_getfield (pc' := 21) (v := .ref 83) kc_171_18 rfl rfl rfl e80 rfl ?_
  refine xi_iload_n (pc' := 22) (x := 11) kc_171_21 rfl rfl ?_
  refine xi_iaload (pc' := 23) (v := 2) kc_171_22 rfl e83 (by decide) rfl (xi_in (n := 24) (by decide) (by decide)) rfl ?_
  refine xi_iconst (pc' := 24) (v := 1) kc_171_23 rfl rfl ?_
  refine xi_cmt (pc' := 49) kc_171_24 rfl rfl ?_
  refine xi_iinc (pc' := 52) (x := 8) (v := 9) (lv' := [(3, .int 9), (2, .int 11), (1, .int 0), (0, .ref 80)]) kc_171_49 rfl rfl rfl rfl (xm_lt ml_171 rfl) ?_
  refine xi_goto (pc' := 12) kc_171_52 rfl ?_
  refine xi_iload_n (pc' := 13) (x := 9) kc_171_12 rfl rfl ?_
  refine xi_iload_n (pc' := 14) (x := 11) kc_171_13 rfl rfl ?_
  refine xi_cmf (pc' := 17) kc_171_14 rfl rfl ?_
  refine xi_aload_n (pc' := 18) (x := 80) kc_171_17 rfl rfl ?_
  refine xi_getfield (pc' := 21) (v := .ref 83) kc_171_18 rfl rfl rfl e80 rfl ?_
  refine xi_iload_n (pc' := 22) (x := 11) kc_171_21 rfl rfl ?_
  refine xi_iaload (pc' := 23) (v := 2) kc_171_22 rfl e83 (by decide) rfl (xi_in (n := 24) (by decide) (by decide)) rfl ?_
  refine xi_iconst (pc' := 24) (v := 1) kc_171_23 rfl rfl ?_
  refine xi_cmt (pc' := 49) kc_171_24 rfl rfl ?_
  refine xi_iinc (pc' := 52) (x := 9) (v := 10) (lv' := [(3, .int 10), (2, .int 11), (1, .int 0), (0, .ref 80)]) kc_171_49 rfl rfl rfl rfl (xm_lt ml_171 rfl) ?_
  refine xi_goto (pc' := 12) kc_171_52 rfl ?_
  refine xi_iload_n (pc' := 13) (x := 10) kc_171_12 rfl rfl ?_
  refine xi_iload_n (pc' := 14) (x := 11) kc_171_13 rfl rfl ?_
  refine xi_cmf (pc' := 17) kc_171_14 rfl rfl ?_
  refine xi_aload_n (pc' := 18) (x := 80) kc_171_17 rfl rfl ?_
  refine xi_getfield (pc' := 21) (v := .ref 83) kc_171_18 rfl rfl rfl e80 rfl ?_
  refine xi_iload_n (pc' := 22) (x := 11) kc_171_21 rfl rfl ?_
  refine xi_iaload (pc' := 23) (v := 2) kc_171_22 rfl e83 (by decide) rfl (xi_in (n := 24) (by decide) (by decide)) rfl ?_
  refine xi_iconst (pc' := 24) (v := 1) kc_171_23 rfl rfl ?_
  refine xi_cmt (pc' := 49) kc_171_24 rfl rfl ?_
  refine xi_iinc (pc' := 52) (x := 10) (v := 11) (lv' := [(3, .int 11), (2, .int 11), (1, .int 0), (0, .ref 80)]) kc_171_49 rfl rfl rfl rfl (xm_lt ml_171 rfl) ?_
  refine xi_goto (pc' := 12) kc_171_52 rfl ?_
  refine xi_iload_n (pc' := 13) (x := 11) kc_171_12 rfl rfl ?_
  refine xi_iload_n (pc' := 14) (x := 11) kc_171_13 rfl rfl ?_
  refine xi_cmt (pc' := 55) kc_171_14 rfl rfl ?_
  refine xi_iinc (pc' := 58) (x := 11) (v := 12) (lv' := [(2, .int 12), (3, .int 11), (1, .int 0), (0, .ref 80)]) kc_171_55 rfl rfl rfl rfl (xm_lt ml_171 rfl) ?_
  refine xi_goto (pc' := 4) kc_171_58 rfl ?_
  refine xi_iload_n (pc' := 5) (x := 12) kc_171_4 rfl rfl ?_
  refine xi_bipush (pc' := 7) (v := 24) kc_171_5 rfl rfl ?_
  refine xi_cmf (pc' := 10) kc_171_7 rfl rfl ?_
  refine xi_iconst (pc' := 11) (v := 0) kc_171_10 rfl rfl ?_
  refine xi_istore_n (pc' := 12) (lv' := [(3, .int 0), (2, .int 12), (1, .int 0), (0, .ref 80)]) kc_171_11 rfl rfl (xm_lt ml_171 rfl) ?_
  refine xi_iload_n (pc' := 13) (x := 0) kc_171_12 rfl rfl ?_
  refine xi_iload_n (pc' := 14) (x := 12) kc_171_13 rfl rfl ?_
  refine xi_cmf (pc' := 17) kc_171_14 rfl rfl ?_
  refine xi_aload_n (pc' := 18) (x := 80) kc_171_17 rfl rfl ?_
  refine xi_getfield (pc' := 21) (v := .ref 83) kc_171_18 rfl rfl rfl e80 rfl ?_
  refine xi_iload_n (pc' := 22) (x := 12) kc_171_21 rfl rfl ?_
  refine xi_iaload (pc' := 23) (v := 2) kc_171_22 rfl e83 (by decide) rfl (xi_in (n := 24) (by decide) (by decide)) rfl ?_
  refine xi_iconst (pc' := 24) (v := 1) kc_171_23 rfl rfl ?_
  refine xi_cmt (pc' := 49) kc_171_24 rfl rfl ?_
  refine xi_iinc (pc' := 52) (x := 0) (v := 1) (lv' := [(3, .int 1), (2, .int 12), (1, .int 0), (0, .ref 80)]) kc_171_49 rfl rfl rfl rfl (xm_lt ml_171 rfl) ?_
  refine xi_goto (pc' := 12) kc_171_52 rfl ?_
  refine xi_iload_n (pc' := 13) (x := 1) kc_171_12 rfl rfl ?_
  refine xi_iload_n (pc' := 14) (x := 12) kc_171_13 rfl rfl ?_
  refine xi_cmf (pc' := 17) kc_171_14 rfl rfl ?_
  refine xi_aload_n (pc' := 18) (x := 80) kc_171_17 rfl rfl ?_
  refine xi_getfield (pc' := 21) (v := .ref 83) kc_171_18 rfl rfl rfl e80 rfl ?_
  refine xi_iload_n (pc' := 22) (x := 12) kc_171_21 rfl rfl ?_
  refine xi_iaload (pc' := 23) (v := 2) kc_171_22 rfl e83 (by decide) rfl (xi_in (n := 24) (by decide) (by decide)) rfl ?_
  refine xi_iconst (pc' := 24) (v := 1) kc_171_23 rfl rfl ?_
  refine xi_cmt (pc' := 49) kc_171_24 rfl rfl ?_
  refine xi_iinc (pc' := 52) (x := 1) (v := 2) (lv' := [(3, .int 2), (2, .int 12), (1, .int 0), (0, .ref 80)]) kc_171_49 rfl rfl rfl rfl (xm_lt ml_171 rfl) ?_
  refine xi_goto (pc' := 12) kc_171_52 rfl ?_
  refine xi_iload_n (pc' := 13) (x := 2) kc_171_12 rfl rfl ?_
  refine xi_iload_n (pc' := 14) (x := 12) kc_171_13 rfl rfl ?_
  refine xi_cmf (pc' := 17) kc_171_14 rfl rfl ?_
  refine xi_aload_n (pc' := 18) (x := 80) kc_171_17 rfl rfl ?_
  refine xi_getfield (pc' := 21) (v := .ref 83) kc_171_18 rfl rfl rfl e80 rfl ?_
  refine xi_iload_n (pc' := 22) (x := 12) kc_171_21 rfl rfl ?_
  refine xi_iaload (pc' := 23) (v := 2) kc_171_22 rfl e83 (by decide) rfl (xi_in (n := 24) (by decide) (by decide)) rfl ?_
  refine xi_iconst (pc' := 24) (v := 1) kc_171_23 rfl rfl ?_
  refine xi_cmt (pc' := 49) kc_171_24 rfl rfl ?_
  refine xi_iinc (pc' := 52) (x := 2) (v := 3) (lv' := [(3, .int 3), (2, .int 12), (1, .int 0), (0, .ref 80)]) kc_171_49 rfl rfl rfl rfl (xm_lt ml_171 rfl) ?_
  refine xi_goto (pc' := 12) kc_171_52 rfl ?_
  refine xi_iload_n (pc' := 13) (x := 3) kc_171_12 rfl rfl ?_
  refine xi_iload_n (pc' := 14) (x := 12) kc_171_13 rfl rfl ?_
  refine xi_cmf (pc' := 17) kc_171_14 rfl rfl ?_
  refine xi_aload_n (pc' := 18) (x := 80) kc_171_17 rfl rfl ?_
  refine xi_getfield (pc' := 21) (v := .ref 83) kc_171_18 rfl rfl rfl e80 rfl ?_
  refine xi_iload_n (pc' := 22) (x := 12) kc_171_21 rfl rfl ?_
  refine xi_iaload (pc' := 23) (v := 2) kc_171_22 rfl e83 (by decide) rfl (xi_in (n := 24) (by decide) (by decide)) rfl ?_
  refine xi_iconst (pc' := 24) (v := 1) kc_171_23 rfl rfl ?_
  refine xi_cmt (pc' := 49) kc_171_24 rfl rfl ?_
  refine xi_iinc (pc' := 52) (x := 3) (v := 4) (lv' := [(3, .int 4), (2, .int 12), (1, .int 0), (0, .ref 80)]) kc_171_49 rfl rfl rfl rfl (xm_lt ml_171 rfl) ?_
  refine xi_goto (pc' := 12) kc_171_52 rfl ?_
  refine xi_iload_n (pc' := 13) (x := 4) kc_171_12 rfl rfl ?_
  refine xi_iload_n (pc' := 14) (x := 12) kc_171_13 rfl rfl ?_
  refine xi_cmf (pc' := 17) kc_171_14 rfl rfl ?_
  refine xi_aload_n (pc' := 18) (x := 80) kc_171_17 rfl rfl ?_
  refine xi_getfield (pc' := 21) (v := .ref 83) kc_171_18 rfl rfl rfl e80 rfl ?_
  refine xi_iload_n (pc' := 22) (x := 12) kc_171_21 rfl rfl ?_
  refine xi_iaload (pc' := 23) (v := 2) kc_171_22 rfl e83 (by decide) rfl (xi_in (n := 24) (by decide) (by decide)) rfl ?_
  refine xi_iconst (pc' := 24) (v := 1) kc_171_23 rfl rfl ?_
  refine xi_cmt (pc' := 49) kc_171_24 rfl rfl ?_
  refine xi_iinc (pc' := 52) (x := 4) (v := 5) (lv' := [(3, .int 5), (2, .int 12), (1, .int 0), (0, .ref 80)]) kc_171_49 rfl rfl rfl rfl (xm_lt ml_171 rfl) ?_
  refine xi_goto (pc' := 12) kc_171_52 rfl ?_
  refine xi_iload_n (pc' := 13) (x := 5) kc_171_12 rfl rfl ?_
  refine xi_iload_n (pc' := 14) (x := 12) kc_171_13 rfl rfl ?_
  refine xi_cmf (pc' := 17) kc_171_14 rfl rfl ?_
  refine xi_aload_n (pc' := 18) (x := 80) kc_171_17 rfl rfl ?_
  refine xi_getfield (pc' := 21) (v := .ref 83) kc_171_18 rfl rfl rfl e80 rfl ?_
  refine xi_iload_n (pc' := 22) (x := 12) kc_171_21 rfl rfl ?_
  refine xi_iaload (pc' := 23) (v := 2) kc_171_22 rfl e83 (by decide) rfl (xi_in (n := 24) (by decide) (by decide)) rfl ?_
  refine xi_iconst (pc' := 24) (v := 1) kc_171_23 rfl rfl ?_
  refine xi_cmt (pc' := 49) kc_171_24 rfl rfl ?_
  refine xi_iinc (pc' := 52) (x := 5) (v := 6) (lv' := [(3, .int 6), (2, .int 12), (1, .int 0), (0, .ref 80)]) kc_171_49 rfl rfl rfl rfl (xm_lt ml_171 rfl) ?_
  refine xi_goto (pc' := 12) kc_171_52 rfl ?_
  refine xi_iload_n (pc' := 13) (x := 6) kc_171_12 rfl rfl ?_
  refine xi_iload_n (pc' := 14) (x := 12) kc_171_13 rfl rfl ?_
  refine xi_cmf (pc' := 17) kc_171_14 rfl rfl ?_
  refine xi_aload_n (pc' := 18) (x := 80) kc_171_17 rfl rfl ?_
  refine xi_getfield (pc' := 21) (v := .ref 83) kc_171_18 rfl rfl rfl e80 rfl ?_
  refine xi_iload_n (pc' := 22) (x := 12) kc_171_21 rfl rfl ?_
  refine xi_iaload (pc' := 23) (v := 2) kc_171_22 rfl e83 (by decide) rfl (xi_in (n := 24) (by decide) (by decide)) rfl ?_
  refine xi_iconst (pc' := 24) (v := 1) kc_171_23 rfl rfl ?_
  refine xi_cmt (pc' := 49) kc_171_24 rfl rfl ?_
  refine xi_iinc (pc' := 52) (x := 6) (v := 7) (lv' := [(3, .int 7), (2, .int 12), (1, .int 0), (0, .ref 80)]) kc_171_49 rfl rfl rfl rfl (xm_lt ml_171 rfl) ?_
  refine xi_goto (pc' := 12) kc_171_52 rfl ?_
  refine xi_iload_n (pc' := 13) (x := 7) kc_171_12 rfl rfl ?_
  refine xi_iload_n (pc' := 14) (x := 12) kc_171_13 rfl rfl ?_
  refine xi_cmf (pc' := 17) kc_171_14 rfl rfl ?_
  refine xi_aload_n (pc' := 18) (x := 80) kc_171_17 rfl rfl ?_
  refine xi_getfield (pc' := 21) (v := .ref 83) kc_171_18 rfl rfl rfl e80 rfl ?_
  refine xi_iload_n (pc' := 22) (x := 12) kc_171_21 rfl rfl ?_
  refine xi_iaload (pc' := 23) (v := 2) kc_171_22 rfl e83 (by decide) rfl (xi_in (n := 24) (by decide) (by decide)) rfl ?_
  refine xi_iconst (pc' := 24) (v := 1) kc_171_23 rfl rfl ?_
  refine xi_cmt (pc' := 49) kc_171_24 rfl rfl ?_
  refine xi_iinc (pc' := 52) (x := 7) (v := 8) (lv' := [(3, .int 8), (2, .int 12), (1, .int 0), (0, .ref 80)]) kc_171_49 rfl rfl rfl rfl (xm_lt ml_171 rfl) ?_
  refine xi_goto (pc' := 12) kc_171_52 rfl ?_
  refine xi_iload_n (pc' := 13) (x := 8) kc_171_12 rfl rfl ?_
  refine xi_iload_n (pc' := 14) (x := 12) kc_171_13 rfl rfl ?_
  refine xi_cmf (pc' := 17) kc_171_14 rfl rfl ?_
  refine xi_aload_n (pc' := 18) (x := 80) kc_171_17 rfl rfl ?_
  refine xi_getfield (pc' := 21) (v := .ref 83) kc_171_18 rfl rfl rfl e80 rfl ?_
  refine xi_iload_n (pc' := 22) (x := 12) kc_171_21 rfl rfl ?_
  refine xi_iaload (pc' := 23) (v := 2) kc_171_22 rfl e83 (by decide) rfl (xi_in (n := 24) (by decide) (by decide)) rfl ?_
  refine xi_iconst (pc' := 24) (v := 1) kc_171_23 rfl rfl ?_
  refine xi_cmt (pc' := 49) kc_171_24 rfl rfl ?_
  refine xi_iinc (pc' := 52) (x := 8) (v := 9) (lv' := [(3, .int 9), (2, .int 12), (1, .int 0), (0, .ref 80)]) kc_171_49 rfl rfl rfl rfl (xm_lt ml_171 rfl) ?_
  refine xi_goto (pc' := 12) kc_171_52 rfl ?_
  refine xi_iload_n (pc' := 13) (x := 9) kc_171_12 rfl rfl ?_
  refine xi_iload_n (pc' := 14) (x := 12) kc_171_13 rfl rfl ?_
  refine xi_cmf (pc' := 17) kc_171_14 rfl rfl ?_
  refine xi_aload_n (pc' := 18) (x := 80) kc_171_17 rfl rfl ?_
  refine xi_getfield (pc' := 21) (v := .ref 83) kc_171_18 rfl rfl rfl e80 rfl ?_
  refine xi_iload_n (pc' := 22) (x := 12) kc_171_21 rfl rfl ?_
  refine xi_iaload (pc' := 23) (v := 2) kc_171_22 rfl e83 (by decide) rfl (xi_in (n := 24) (by decide) (by decide)) rfl ?_
  refine xi_iconst (pc' := 24) (v := 1) kc_171_23 rfl rfl ?_
  refine xi_cmt (pc' := 49) kc_171_24 rfl rfl ?_
  refine xi_iinc (pc' := 52) (x := 9) (v := 10) (lv' := [(3, .int 10), (2, .int 12), (1, .int 0), (0, .ref 80)]) kc_171_49 rfl rfl rfl rfl (xm_lt ml_171 rfl) ?_
  refine xi_goto (pc' := 12) kc_171_52 rfl ?_
  refine xi_iload_n (pc' := 13) (x := 10) kc_171_12 rfl rfl ?_
  refine xi_iload_n (pc' := 14) (x := 12) kc_171_13 rfl rfl ?_
  refine xi_cmf (pc' := 17) kc_171_14 rfl rfl ?_
  refine xi_aload_n (pc' := 18) (x := 80) kc_171_17 rfl rfl ?_
  refine xi_getfield (pc' := 21) (v := .ref 83) kc_171_18 rfl rfl rfl e80 rfl ?_
  refine xi_iload_n (pc' := 22) (x := 12) kc_171_21 rfl rfl ?_
  refine xi_iaload (pc' := 23) (v := 2) kc_171_22 rfl e83 (by decide) rfl (xi_in (n := 24) (by decide) (by decide)) rfl ?_
  refine xi_iconst (pc' := 24) (v := 1) kc_171_23 rfl rfl ?_
  refine xi_cmt (pc' := 49) kc_171_24 rfl rfl ?_
  refine xi_iinc (pc' := 52) (x := 10) (v := 11) (lv' := [(3, .int 11), (2, .int 12), (1, .int 0), (0, .ref 80)]) kc_171_49 rfl rfl rfl rfl (xm_lt ml_171 rfl) ?_
  refine xi_goto (pc' := 12) kc_171_52 rfl ?_
  refine xi_iload_n (pc' := 13) (x := 11) kc_171_12 rfl rfl ?_
  refine xi_iload_n (pc' := 14) (x := 12) kc_171_13 rfl rfl ?_
  refine xi_cmf (pc' := 17) kc_171_14 rfl rfl ?_
  refine xi_aload_n (pc' := 18) (x := 80) kc_171_17 rfl rfl ?_
  refine xi_getfield (pc' := 21) (v := .ref 83) kc_171_18 rfl rfl rfl e80 rfl ?_
  refine xi_iload_n (pc' := 22) (x := 12) kc_171_21 rfl rfl ?_
  refine xi_iaload (pc' := 23) (v := 2) kc_171_22 rfl e83 (by decide) rfl (xi_in (n := 24) (by decide) (by decide)) rfl ?_
  refine xi_iconst (pc' := 24) (v := 1) kc_171_23 rfl rfl ?_
  refine xi_cmt (pc' := 49) kc_171_24 rfl rfl ?_
  refine xi_iinc (pc' := 52) (x := 11) (v := 12) (lv' := [(3, .int 12), (2, .int 12), (1, .int 0), (0, .ref 80)]) kc_171_49 rfl rfl rfl rfl (xm_lt ml_171 rfl) ?_
  refine xi_goto (pc' := 12) kc_171_52 rfl ?_
  refine xi_iload_n (pc' := 13) (x := 12) kc_171_12 rfl rfl ?_
  refine xi_iload_n (pc' := 14) (x := 12) kc_171_13 rfl rfl ?_
  refine xi_cmt (pc' := 55) kc_171_14 rfl rfl ?_
  refine xi_iinc (pc' := 58) (x := 12) (v := 13) (lv' := [(2, .int 13), (3, .int 12), (1, .int 0), (0, .ref 80)]) kc_171_55 rfl rfl rfl rfl (xm_lt ml_171 rfl) ?_
  refine xi_goto (pc' := 4) kc_171_58 rfl ?_
  refine xi_iload_n (pc' := 5) (x := 13) kc_171_4 rfl rfl ?_
  refine xi_bipush (pc' := 7) (v := 24) kc_171_5 rfl rfl ?_
  refine xi_cmf (pc' := 10) kc_171_7 rfl rfl ?_
  refine xi_iconst (pc' := 11) (v := 0) kc_171_10 rfl rfl ?_
  refine xi_istore_n (pc' := 12) (lv' := [(3, .int 0), (2, .int 13), (1, .int 0), (0, .ref 80)]) kc_171_11 rfl rfl (xm_lt ml_171 rfl) ?_
  refine xi_iload_n (pc' := 13) (x := 0) kc_171_12 rfl rfl ?_
  refine xi_iload_n (pc' := 14) (x := 13) kc_171_13 rfl rfl ?_
  refine xi_cmf (pc' := 17) kc_171_14 rfl rfl ?_
  refine xi_aload_n (pc' := 18) (x := 80) kc_171_17 rfl rfl ?_
  refine xi_getfield (pc' := 21) (v := .ref 83) kc_171_18 rfl rfl rfl e80 rfl ?_
  refine xi_iload_n (pc' := 22) (x := 13) kc_171_21 rfl rfl ?_
  refine xi_iaload (pc' := 23) (v := 2) kc_171_22 rfl e83 (by decide) rfl (xi_in (n := 24) (by decide) (by decide)) rfl ?_
  refine xi_iconst (pc' := 24) (v := 1) kc_171_23 rfl rfl ?_
  refine xi_cmt (pc' := 49) kc_171_24 rfl rfl ?_
  refine xi_iinc (pc' := 52) (x := 0) (v := 1) (lv' := [(3, .int 1), (2, .int 13), (1, .int 0), (0, .ref 80)]) kc_171_49 rfl rfl rfl rfl (xm_lt ml_171 rfl) ?_
  refine xi_goto (pc' := 12) kc_171_52 rfl ?_
  refine xi_iload_n (pc' := 13) (x := 1) kc_171_12 rfl rfl ?_
  refine xi_iload_n (pc' := 14) (x := 13) kc_171_13 rfl rfl ?_
  refine xi_cmf (pc' := 17) kc_171_14 rfl rfl ?_
  refine xi_aload_n (pc' := 18) (x := 80) kc_171_17 rfl rfl ?_
  refine xi_getfield (pc' := 21) (v := .ref 83) kc_171_18 rfl rfl rfl e80 rfl ?_
  refine xi_iload_n (pc' := 22) (x := 13) kc_171_21 rfl rfl ?_
  refine xi_iaload (pc' := 23) (v := 2) kc_171_22 rfl e83 (by decide) rfl (xi_in (n := 24) (by decide) (by decide)) rfl ?_
  refine xi_iconst (pc' := 24) (v := 1) kc_171_23 rfl rfl ?_
  refine xi_cmt (pc' := 49) kc_171_24 rfl rfl ?_
  refine xi_iinc (pc' := 52) (x := 1) (v := 2) (lv' := [(3, .int 2), (2, .int 13), (1, .int 0), (0, .ref 80)]) kc_171_49 rfl rfl rfl rfl (xm_lt ml_171 rfl) ?_
  refine xi_goto (pc' := 12) kc_171_52 rfl ?_
  refine xi_iload_n (pc' := 13) (x := 2) kc_171_12 rfl rfl ?_
  refine xi_iload_n (pc' := 14) (x := 13) kc_171_13 rfl rfl ?_
  refine xi_cmf (pc' := 17) kc_171_14 rfl rfl ?_
  refine xi_aload_n (pc' := 18) (x := 80) kc_171_17 rfl rfl ?_
  refine xi_getfield (pc' := 21) (v := .ref 83) kc_171_18 rfl rfl rfl e80 rfl ?_
  refine xi_iload_n (pc' := 22) (x := 13) kc_171_21 rfl rfl ?_
  refine xi_iaload (pc' := 23) (v := 2) kc_171_22 rfl e83 (by decide) rfl (xi_in (n := 24) (by decide) (by decide)) rfl ?_
  refine xi_iconst (pc' := 24) (v := 1) kc_171_23 rfl rfl ?_
  refine xi_cmt (pc' := 49) kc_171_24 rfl rfl ?_
  refine xi_iinc (pc' := 52) (x := 2) (v := 3) (lv' := [(3, .int 3), (2, .int 13), (1, .int 0), (0, .ref 80)]) kc_171_49 rfl rfl rfl rfl (xm_lt ml_171 rfl) ?_
  refine xi_goto (pc' := 12) kc_171_52 rfl ?_
  refine xi_iload_n (pc' := 13) (x := 3) kc_171_12 rfl rfl ?_
  refine xi_iload_n (pc' := 14) (x := 13) kc_171_13 rfl rfl ?_
  refine xi_cmf (pc' := 17) kc_171_14 rfl rfl ?_
  refine xi_aload_n (pc' := 18) (x := 80) kc_171_17 rfl rfl ?_
  refine xi_getfield (pc' := 21) (v := .ref 83) kc_171_18 rfl rfl rfl e80 rfl ?_
  refine xi_iload_n (pc' := 22) (x := 13) kc_171_21 rfl rfl ?_
  refine xi_iaload (pc' := 23) (v := 2) kc_171_22 rfl e83 (by decide) rfl (xi_in (n := 24) (by decide) (by decide)) rfl ?_
  refine xi_iconst (pc' := 24) (v := 1) kc_171_23 rfl rfl ?_
  refine xi_cmt (pc' := 49) kc_171_24 rfl rfl ?_
  refine xi_iinc (pc' := 52) (x := 3) (v := 4) (lv' := [(3, .int 4), (2, .int 13), (1, .int 0), (0, .ref 80)]) kc_171_49 rfl rfl rfl rfl (xm_lt ml_171 rfl) ?_
  refine xi_goto (pc' := 12) kc_171_52 rfl ?_
  refine xi_iload_n (pc' := 13) (x := 4) kc_171_12 rfl rfl ?_
  refine xi_iload_n (pc' := 14) (x := 13) kc_171_13 rfl rfl ?_
  refine xi_cmf (pc' := 17) kc_171_14 rfl rfl ?_
  refine xi_aload_n (pc' := 18) (x := 80) kc_171_17 rfl rfl ?_
  refine xi_getfield (pc' := 21) (v := .ref 83) kc_171_18 rfl rfl rfl e80 rfl ?_
  refine xi_iload_n (pc' := 22) (x := 13) kc_171_21 rfl rfl ?_
  refine xi_iaload (pc' := 23) (v := 2) kc_171_22 rfl e83 (by decide) rfl (xi_in (n := 24) (by decide) (by decide)) rfl ?_
  refine xi_iconst (pc' := 24) (v := 1) kc_171_23 rfl rfl ?_
  refine xi_cmt (pc' := 49) kc_171_24 rfl rfl ?_
  refine xi_iinc (pc' := 52) (x := 4) (v := 5) (lv' := [(3, .int 5), (2, .int 13), (1, .int 0), (0, .ref 80)]) kc_171_49 rfl rfl rfl rfl (xm_lt ml_171 rfl) ?_
  refine xi_goto (pc' := 12) kc_171_52 rfl ?_
  refine xi_iload_n (pc' := 13) (x := 5) kc_171_12 rfl rfl ?_
  refine xi_iload_n (pc' := 14) (x := 13) kc_171_13 rfl rfl ?_
  refine xi_cmf (pc' := 17) kc_171_14 rfl rfl ?_
  refine xi_aload_n (pc' := 18) (x := 80) kc_171_17 rfl rfl ?_
  refine xi_getfield (pc' := 21) (v := .ref 83) kc_171_18 rfl rfl rfl e80 rfl ?_
  refine xi_iload_n (pc' := 22) (x := 13) kc_171_21 rfl rfl ?_
  refine xi_iaload (pc' := 23) (v := 2) kc_171_22 rfl e83 (by decide) rfl (xi_in (n := 24) (by decide) (by decide)) rfl ?_
  refine xi_iconst (pc' := 24) (v := 1) kc_171_23 rfl rfl ?_
  refine xi_cmt (pc' := 49) kc_171_24 rfl rfl ?_
  refine xi_iinc (pc' := 52) (x := 5) (v := 6) (lv' := [(3, .int 6), (2, .int 13), (1, .int 0), (0, .ref 80)]) kc_171_49 rfl rfl rfl rfl (xm_lt ml_171 rfl) ?_
  refine xi_goto (pc' := 12) kc_171_52 rfl ?_
  refine xi_iload_n (pc' := 13) (x := 6) kc_171_12 rfl rfl ?_
  refine xi_iload_n (pc' := 14) (x := 13) kc_171_13 rfl rfl ?_
  refine xi_cmf (pc' := 17) kc_171_14 rfl rfl ?_
  refine xi_aload_n (pc' := 18) (x := 80) kc_171_17 rfl rfl ?_
  refine xi_getfield (pc' := 21) (v := .ref 83) kc_171_18 rfl rfl rfl e80 rfl ?_
  refine xi_iload_n (pc' := 22) (x := 13) kc_171_21 rfl rfl ?_
  refine xi_iaload (pc' := 23) (v := 2) kc_171_22 rfl e83 (by decide) rfl (xi_in (n := 24) (by decide) (by decide)) rfl ?_
  refine xi_iconst (pc' := 24) (v := 1) kc_171_23 rfl rfl ?_
  refine xi_cmt (pc' := 49) kc_171_24 rfl rfl ?_
  refine xi_iinc (pc' := 52) (x := 6) (v := 7) (lv' := [(3, .int 7), (2, .int 13), (1, .int 0), (0, .ref 80)]) kc_171_49 rfl rfl rfl rfl (xm_lt ml_171 rfl) ?_
  refine xi_goto (pc' := 12) kc_171_52 rfl ?_
  refine xi_iload_n (pc' := 13) (x := 7) kc_171_12 rfl rfl ?_
  refine xi_iload_n (pc' := 14) (x := 13) kc_171_13 rfl rfl ?_
  refine xi_cmf (pc' := 17) kc_171_14 rfl rfl ?_
  refine xi_aload_n (pc' := 18) (x := 80) kc_171_17 rfl rfl ?_
  refine xi_getfield (pc' := 21) (v := .ref 83) kc_171_18 rfl rfl rfl e80 rfl ?_
  refine xi_iload_n (pc' := 22) (x := 13) kc_171_21 rfl rfl ?_
  refine xi_iaload (pc' := 23) (v := 2) kc_171_22 rfl e83 (by decide) rfl (xi_in (n := 24) (by decide) (by decide)) rfl ?_
  refine xi_iconst (pc' := 24) (v := 1) kc_171_23 rfl rfl ?_
  refine xi_cmt (pc' := 49) kc_171_24 rfl rfl ?_
  refine xi_iinc (pc' := 52) (x := 7) (v := 8) (lv' := [(3, .int 8), (2, .int 13), (1, .int 0), (0, .ref 80)]) kc_171_49 rfl rfl rfl rfl (xm_lt ml_171 rfl) ?_
  refine xi_goto (pc' := 12) kc_171_52 rfl ?_
  refine xi_iload_n (pc' := 13) (x := 8) kc_171_12 rfl rfl ?_
  refine xi_iload_n (pc' := 14) (x := 13) kc_171_13 rfl rfl ?_
  refine xi_cmf (pc' := 17) kc_171_14 rfl rfl ?_
  refine xi_aload_n (pc' := 18) (x := 80) kc_171_17 rfl rfl ?_
  refine xi_getfield (pc' := 21) (v := .ref 83) kc_171_18 rfl rfl rfl e80 rfl ?_
  refine xi_iload_n (pc' := 22) (x := 13) kc_171_21 rfl rfl ?_
  refine xi_iaload (pc' := 23) (v := 2) kc_171_22 rfl e83 (by decide) rfl (xi_in (n := 24) (by decide) (by decide)) rfl ?_
  refine xi_iconst (pc' := 24) (v := 1) kc_171_23 rfl rfl ?_
  refine xi_cmt (pc' := 49) kc_171_24 rfl rfl ?_
  refine xi_iinc (pc' := 52) (x := 8) (v := 9) (lv' := [(3, .int 9), (2, .int 13), (1, .int 0), (0, .ref 80)]) kc_171_49 rfl rfl rfl rfl (xm_lt ml_171 rfl) ?_
  refine xi_goto (pc' := 12) kc_171_52 rfl ?_
  refine xi_iload_n (pc' := 13) (x := 9) kc_171_12 rfl rfl ?_
  refine xi_iload_n (pc' := 14) (x := 13) kc_171_13 rfl rfl ?_
  refine xi_cmf (pc' := 17) kc_171_14 rfl rfl ?_
  refine xi_aload_n (pc' := 18) (x := 80) kc_171_17 rfl rfl ?_
  refine xi_getfield (pc' := 21) (v := .ref 83) kc_171_18 rfl rfl rfl e80 rfl ?_
  refine xi_iload_n (pc' := 22) (x := 13) kc_171_21 rfl rfl ?_
  refine xi_iaload (pc' := 23) (v := 2) kc_171_22 rfl e83 (by decide) rfl (xi_in (n := 24) (by decide) (by decide)) rfl ?_
  refine xi_iconst (pc' := 24) (v := 1) kc_171_23 rfl rfl ?_
  refine xi_cmt (pc' := 49) kc_171_24 rfl rfl ?_
  refine xi_iinc (pc' := 52) (x := 9) (v := 10) (lv' := [(3, .int 10), (2, .int 13), (1, .int 0), (0, .ref 80)]) kc_171_49 rfl rfl rfl rfl (xm_lt ml_171 rfl) ?_
  refine xi_goto (pc' := 12) kc_171_52 rfl ?_
  refine xi_iload_n (pc' := 13) (x := 10) kc_171_12 rfl rfl ?_
  refine xi_iload_n (pc' := 14) (x := 13) kc_171_13 rfl rfl ?_
  refine xi_cmf (pc' := 17) kc_171_14 rfl rfl ?_
  refine xi_aload_n (pc' := 18) (x := 80) kc_171_17 rfl rfl ?_
  refine xi_getfield (pc' := 21) (v := .ref 83) kc_171_18 rfl rfl rfl e80 rfl ?_
  refine xi_iload_n (pc' := 22) (x := 13) kc_171_21 rfl rfl ?_
  refine xi_iaload (pc' := 23) (v := 2) kc_171_22 rfl e83 (by decide) rfl (xi_in (n := 24) (by decide) (by decide)) rfl ?_
  refine xi_iconst (pc' := 24) (v := 1) kc_171_23 rfl rfl ?_
  refine xi_cmt (pc' := 49) kc_171_24 rfl rfl ?_
  refine xi_iinc (pc' := 52) (x := 10) (v := 11) (lv' := [(3, .int 11), (2, .int 13), (1, .int 0), (0, .ref 80)]) kc_171_49 rfl rfl rfl rfl (xm_lt ml_171 rfl) ?_
  refine xi_goto (pc' := 12) kc_171_52 rfl ?_
  refine xi_iload_n (pc' := 13) (x := 11) kc_171_12 rfl rfl ?_
  refine xi_iload_n (pc' := 14) (x := 13) kc_171_13 rfl rfl ?_
  refine xi_cmf (pc' := 17) kc_171_14 rfl rfl ?_
  refine xi_aload_n (pc' := 18) (x := 80) kc_171_17 rfl rfl ?_
  refine xi_getfield (pc' := 21) (v := .ref 83) kc_171_18 rfl rfl rfl e80 rfl ?_
  refine xi_iload_n (pc' := 22) (x := 13) kc_171_21 rfl rfl ?_
  refine xi_iaload (pc' := 23) (v := 2) kc_171_22 rfl e83 (by decide) rfl (xi_in (n := 24) (by decide) (by decide)) rfl ?_
  refine xi_iconst (pc' := 24) (v := 1) kc_171_23 rfl rfl ?_
  refine xi_cmt (pc' := 49) kc_171_24 rfl rfl ?_
  refine xi_iinc (pc' := 52) (x := 11) (v := 12) (lv' := [(3, .int 12), (2, .int 13), (1, .int 0), (0, .ref 80)]) kc_171_49 rfl rfl rfl rfl (xm_lt ml_171 rfl) ?_
  refine xi_goto (pc' := 12) kc_171_52 rfl ?_
  refine xi_iload_n (pc' := 13) (x := 12) kc_171_12 rfl rfl ?_
  refine xi_iload_n (pc' := 14) (x := 13) kc_171_13 rfl rfl ?_
  refine xi_cmf (pc' := 17) kc_171_14 rfl rfl ?_
  refine xi_aload_n (pc' := 18) (x := 80) kc_171_17 rfl rfl ?_
  refine xi_getfield (pc' := 21) (v := .ref 83) kc_171_18 rfl rfl rfl e80 rfl ?_
  refine xi_iload_n (pc' := 22) (x := 13) kc_171_21 rfl rfl ?_
  refine xi_iaload (pc' := 23) (v := 2) kc_171_22 rfl e83 (by decide) rfl (xi_in (n := 24) (by decide) (by decide)) rfl ?_
  refine xi_iconst (pc' := 24) (v := 1) kc_171_23 rfl rfl ?_
  refine xi_cmt (pc' := 49) kc_171_24 rfl rfl ?_
  refine xi_iinc (pc' := 52) (x := 12) (v := 13) (lv' := [(3, .int 13), (2, .int 13), (1, .int 0), (0, .ref 80)]) kc_171_49 rfl rfl rfl rfl (xm_lt ml_171 rfl) ?_
  refine xi_goto (pc' := 12) kc_171_52 rfl ?_
  refine xi_iload_n (pc' := 13) (x := 13) kc_171_12 rfl rfl ?_
  refine xi_iload_n (pc' := 14) (x := 13) kc_171_13 rfl rfl ?_
  refine xi_cmt (pc' := 55) kc_171_14 rfl rfl ?_
  refine xi_iinc (pc' := 58) (x := 13) (v := 14) (lv' := [(2, .int 14), (3, .int 13), (1, .int 0), (0, .ref 80)]) kc_171_55 rfl rfl rfl rfl (xm_lt ml_171 rfl) ?_
  refine xi_goto (pc' := 4) kc_171_58 rfl ?_
  refine xi_iload_n (pc' := 5) (x := 14) kc_171_4 rfl rfl ?_
  refine xi_bipush (pc' := 7) (v := 24) kc_171_5 rfl rfl ?_
  refine xi_cmf (pc' := 10) kc_171_7 rfl rfl ?_
  refine xi_iconst (pc' := 11) (v := 0) kc_171_10 rfl rfl ?_
  refine xi_istore_n (pc' := 12) (lv' := [(3, .int 0), (2, .int 14), (1, .int 0), (0, .ref 80)]) kc_171_11 rfl rfl (xm_lt ml_171 rfl) ?_
  refine xi_iload_n (pc' := 13) (x := 0) kc_171_12 rfl rfl ?_
  refine xi_iload_n (pc' := 14) (x := 14) kc_171_13 rfl rfl ?_
  refine xi_cmf (pc' := 17) kc_171_14 rfl rfl ?_
  refine xi_aload_n (pc' := 18) (x := 80) kc_171_17 rfl rfl ?_
  refine xi_getfield (pc' := 21) (v := .ref 83) kc_171_18 rfl rfl rfl e80 rfl ?_
  refine xi_iload_n (pc' := 22) (x := 14) kc_171_21 rfl rfl ?_
  refine xi_iaload (pc' := 23) (v := 2) kc_171_22 rfl e83 (by decide) rfl (xi_in (n := 24) (by decide) (by decide)) rfl ?_
  refine xi_iconst (pc' := 24) (v := 1) kc_171_23 rfl rfl ?_
  refine xi_cmt (pc' := 49) kc_171_24 rfl rfl ?_
  refine xi_iinc (pc' := 52) (x := 0) (v := 1) (lv' := [(3, .int 1), (2, .int 14), (1, .int 0), (0, .ref 80)]) kc_171_49 rfl rfl rfl rfl (xm_lt ml_171 rfl) ?_
  refine xi_goto (pc' := 12) kc_171_52 rfl ?_
  refine xi_iload_n (pc' := 13) (x := 1) kc_171_12 rfl rfl ?_
  refine xi_iload_n (pc' := 14) (x := 14) kc_171_13 rfl rfl ?_
  refine xi_cmf (pc' := 17) kc_171_14 rfl rfl ?_
  refine xi_aload_n (pc' := 18) (x := 80) kc_171_17 rfl rfl ?_
  refine xi_getfield (pc' := 21) (v := .ref 83) kc_171_18 rfl rfl rfl e80 rfl ?_
  refine xi_iload_n (pc' := 22) (x := 14) kc_171_21 rfl rfl ?_
  refine xi_iaload (pc' := 23) (v := 2) kc_171_22 rfl e83 (by decide) rfl (xi_in (n := 24) (by decide) (by decide)) rfl ?_
  refine xi_iconst (pc' := 24) (v := 1) kc_171_23 rfl rfl ?_
  refine xi_cmt (pc' := 49) kc_171_24 rfl rfl ?_
  refine xi_iinc (pc' := 52) (x := 1) (v := 2) (lv' := [(3, .int 2), (2, .int 14), (1, .int 0), (0, .ref 80)]) kc_171_49 rfl rfl rfl rfl (xm_lt ml_171 rfl) ?_
  refine xi_goto (pc' := 12) kc_171_52 rfl ?_
  refine xi_iload_n (pc' := 13) (x := 2) kc_171_12 rfl rfl ?_
  refine xi_iload_n (pc' := 14) (x := 14) kc_171_13 rfl rfl ?_
  refine xi_cmf (pc' := 17) kc_171_14 rfl rfl ?_
  refine xi_aload_n (pc' := 18) (x := 80) kc_171_17 rfl rfl ?_
  refine xi_getfield (pc' := 21) (v := .ref 83) kc_171_18 rfl rfl rfl e80 rfl ?_
  refine xi_iload_n (pc' := 22) (x := 14) kc_171_21 rfl rfl ?_
  refine xi_iaload (pc' := 23) (v := 2) kc_171_22 rfl e83 (by decide) rfl (xi_in (n := 24) (by decide) (by decide)) rfl ?_
  refine xi_iconst (pc' := 24) (v := 1) kc_171_23 rfl rfl ?_
  refine xi_cmt (pc' := 49) kc_171_24 rfl rfl ?_
  refine xi_iinc (pc' := 52) (x := 2) (v := 3) (lv' := [(3, .int 3), (2, .int 14), (1, .int 0), (0, .ref 80)]) kc_171_49 rfl rfl rfl rfl (xm_lt ml_171 rfl) ?_
  refine xi_goto (pc' := 12) kc_171_52 rfl ?_
  refine xi_iload_n (pc' := 13) (x := 3) kc_171_12 rfl rfl ?_
  refine xi_iload_n (pc' := 14) (x := 14) kc_171_13 rfl rfl ?_
  refine xi_cmf (pc' := 17) kc_171_14 rfl rfl ?_
  refine xi_aload_n (pc' := 18) (x := 80) kc_171_17 rfl rfl ?_
  refine xi_getfield (pc' := 21) (v := .ref 83) kc_171_18 rfl rfl rfl e80 rfl ?_
  refine xi_iload_n (pc' := 22) (x := 14) kc_171_21 rfl rfl ?_
  refine xi_iaload (pc' := 23) (v := 2) kc_171_22 rfl e83 (by decide) rfl (xi_in (n := 24) (by decide) (by decide)) rfl ?_
  refine xi_iconst (pc' := 24) (v := 1) kc_171_23 rfl rfl ?_
  refine xi_cmt (pc' := 49) kc_171_24 rfl rfl ?_
  refine xi_iinc (pc' := 52) (x := 3) (v := 4) (lv' := [(3, .int 4), (2, .int 14), (1, .int 0), (0, .ref 80)]) kc_171_49 rfl rfl rfl rfl (xm_lt ml_171 rfl) ?_
  refine xi_goto (pc' := 12) kc_171_52 rfl ?_
  refine xi_iload_n (pc' := 13) (x := 4) kc_171_12 rfl rfl ?_
  refine xi_iload_n (pc' := 14) (x := 14) kc_171_13 rfl rfl ?_
  refine xi_cmf (pc' := 17) kc_171_14 rfl rfl ?_
  refine xi_aload_n (pc' := 18) (x := 80) kc_171_17 rfl rfl ?_
  refine xi_getfield (pc' := 21) (v := .ref 83) kc_171_18 rfl rfl rfl e80 rfl ?_
  refine xi_iload_n (pc' := 22) (x := 14) kc_171_21 rfl rfl ?_
  refine xi_iaload (pc' := 23) (v := 2) kc_171_22 rfl e83 (by decide) rfl (xi_in (n := 24) (by decide) (by decide)) rfl ?_
  refine xi_iconst (pc' := 24) (v := 1) kc_171_23 rfl rfl ?_
  refine xi_cmt (pc' := 49) kc_171_24 rfl rfl ?_
  refine xi_iinc (pc' := 52) (x := 4) (v := 5) (lv' := [(3, .int 5), (2, .int 14), (1, .int 0), (0, .ref 80)]) kc_171_49 rfl rfl rfl rfl (xm_lt ml_171 rfl) ?_
  refine xi_goto (pc' := 12) kc_171_52 rfl ?_
  refine xi_iload_n (pc' := 13) (x := 5) kc_171_12 rfl rfl ?_
  refine xi_iload_n (pc' := 14) (x := 14) kc_171_13 rfl rfl ?_
  refine xi_cmf (pc' := 17) kc_171_14 rfl rfl ?_
  refine xi_aload_n (pc' := 18) (x := 80) kc_171_17 rfl rfl ?_
  refine xi_getfield (pc' := 21) (v := .ref 83) kc_171_18 rfl rfl rfl e80 rfl ?_
  refine xi_iload_n (pc' := 22) (x := 14) kc_171_21 rfl rfl ?_
  refine xi_iaload (pc' := 23) (v := 2) kc_171_22 rfl e83 (by decide) rfl (xi_in (n := 24) (by decide) (by decide)) rfl ?_
  refine xi_iconst (pc' := 24) (v := 1) kc_171_23 rfl rfl ?_
  refine xi_cmt (pc' := 49) kc_171_24 rfl rfl ?_
  refine xi_iinc (pc' := 52) (x := 5) (v := 6) (lv' := [(3, .int 6), (2, .int 14), (1, .int 0), (0, .ref 80)]) kc_171_49 rfl rfl rfl rfl (xm_lt ml_171 rfl) ?_
  refine xi_goto (pc' := 12) kc_171_52 rfl ?_
  refine xi_iload_n (pc' := 13) (x := 6) kc_171_12 rfl rfl ?_
  refine xi_iload_n (pc' := 14) (x := 14) kc_171_13 rfl rfl ?_
  refine xi_cmf (pc' := 17) kc_171_14 rfl rfl ?_
  refine xi_aload_n (pc' := 18) (x := 80) kc_171_17 rfl rfl ?_
  refine xi_getfield (pc' := 21) (v := .ref 83) kc_171_18 rfl rfl rfl e80 rfl ?_
  refine xi_iload_n (pc' := 22) (x := 14) kc_171_21 rfl rfl ?_
  refine xi_iaload (pc' := 23) (v := 2) kc_171_22 rfl e83 (by decide) rfl (xi_in (n := 24) (by decide) (by decide)) rfl ?_
  refine xi_iconst (pc' := 24) (v := 1) kc_171_23 rfl rfl ?_
  refine xi_cmt (pc' := 49) kc_171_24 rfl rfl ?_
  refine xi_iinc (pc' := 52) (x := 6) (v := 7) (lv' := [(3, .int 7), (2, .int 14), (1, .int 0), (0, .ref 80)]) kc_171_49 rfl rfl rfl rfl (xm_lt ml_171 rfl) ?_
  refine xi_goto (pc' := 12) kc_171_52 rfl ?_
  refine xi_iload_n (pc' := 13) (x := 7) kc_171_12 rfl rfl ?_
  refine xi_iload_n (pc' := 14) (x := 14) kc_171_13 rfl rfl ?_
  refine xi_cmf (pc' := 17) kc_171_14 rfl rfl ?_
  refine xi_aload_n (pc' := 18) (x := 80) kc_171_17 rfl rfl ?_
  refine xi_getfield (pc' := 21) (v := .ref 83) kc_171_18 rfl rfl rfl e80 rfl ?_
  refine xi_iload_n (pc' := 22) (x := 14) kc_171_21 rfl rfl ?_
  refine xi_iaload (pc' := 23) (v := 2) kc_171_22 rfl e83 (by decide) rfl (xi_in (n := 24) (by decide) (by decide)) rfl ?_
  refine xi_iconst (pc' := 24) (v := 1) kc_171_23 rfl rfl ?_
  refine xi_cmt (pc' := 49) kc_171_24 rfl rfl ?_
  refine xi_iinc (pc' := 52) (x := 7) (v := 8) (lv' := [(3, .int 8), (2, .int 14), (1, .int 0), (0, .ref 80)]) kc_171_49 rfl rfl rfl rfl (xm_lt ml_171 rfl) ?_
  refine xi_goto (pc' := 12) kc_171_52 rfl ?_
  refine xi_iload_n (pc' := 13) (x := 8) kc_171_12 rfl rfl ?_
  refine xi_iload_n (pc' := 14) (x := 14) kc_171_13 rfl rfl ?_
  refine xi_cmf (pc' := 17) kc_171_14 rfl rfl ?_
  refine xi_aload_n (pc' := 18) (x := 80) kc_171_17 rfl rfl ?_
  refine xi_getfield (pc' := 21) (v := .ref 83) kc_171_18 rfl rfl rfl e80 rfl ?_
  refine xi_iload_n (pc' := 22) (x := 14) kc_171_21 rfl rfl ?_
  refine xi_iaload (pc' := 23) (v := 2) kc_171_22 rfl e83 (by decide) rfl (xi_in (n := 24) (by decide) (by decide)) rfl ?_
  refine xi_iconst (pc' := 24) (v := 1) kc_171_23 rfl rfl ?_
  refine xi_cmt (pc' := 49) kc_171_24 rfl rfl ?_
  refine xi_iinc (pc' := 52) (x := 8) (v := 9) (lv' := [(3, .int 9), (2, .int 14), (1, .int 0), (0, .ref 80)]) kc_171_49 rfl rfl rfl rfl (xm_lt ml_171 rfl) ?_
  refine xi_goto (pc' := 12) kc_171_52 rfl ?_
  refine xi_iload_n (pc' := 13) (x := 9) kc_171_12 rfl rfl ?_
  refine xi_iload_n (pc' := 14) (x := 14) kc_171_13 rfl rfl ?_
  refine xi_cmf (pc' := 17) kc_171_14 rfl rfl ?_
  refine xi_aload_n (pc' := 18) (x := 80) kc_171_17 rfl rfl ?_
  refine xi_getfield (pc' := 21) (v := .ref 83) kc_171_18 rfl rfl rfl e80 rfl ?_
  refine xi_iload_n (pc' := 22) (x := 14) kc_171_21 rfl rfl ?_
  refine xi_iaload (pc' := 23) (v := 2) kc_171_22 rfl e83 (by decide) rfl (xi_in (n := 24) (by decide) (by decide)) rfl ?_
  refine xi_iconst (pc' := 24) (v := 1) kc_171_23 rfl rfl ?_
  refine xi_cmt (pc' := 49) kc_171_24 rfl rfl ?_
  refine xi_iinc (pc' := 52) (x := 9) (v := 10) (lv' := [(3, .int 10), (2, .int 14), (1, .int 0), (0, .ref 80)]) kc_171_49 rfl rfl rfl rfl (xm_lt ml_171 rfl) ?_
  refine xi_goto (pc' := 12) kc_171_52 rfl ?_
  refine xi_iload_n (pc' := 13) (x := 10) kc_171_12 rfl rfl ?_
  refine xi_iload_n (pc' := 14) (x := 14) kc_171_13 rfl rfl ?_
  refine xi_cmf (pc' := 17) kc_171_14 rfl rfl ?_
  refine xi_aload_n (pc' := 18) (x := 80) kc_171_17 rfl rfl ?_
  refine xi_getfield (pc' := 21) (v := .ref 83) kc_171_18 rfl rfl rfl e80 rfl ?_
  refine xi_iload_n (pc' := 22) (x := 14) kc_171_21 rfl rfl ?_
  refine xi_iaload (pc' := 23) (v := 2) kc_171_22 rfl e83 (by decide) rfl (xi_in (n := 24) (by decide) (by decide)) rfl ?_
  refine xi_iconst (pc' := 24) (v := 1) kc_171_23 rfl rfl ?_
  refine xi_cmt (pc' := 49) kc_171_24 rfl rfl ?_
  refine xi_iinc (pc' := 52) (x := 10) (v := 11) (lv' := [(3, .int 11), (2, .int 14), (1, .int 0), (0, .ref 80)]) kc_171_49 rfl rfl rfl rfl (xm_lt ml_171 rfl) ?_
  refine xi_goto (pc' := 12) kc_171_52 rfl ?_
  refine xi_iload_n (pc' := 13) (x := 11) kc_171_12 rfl rfl ?_
  refine xi_iload_n (pc' := 14) (x := 14) kc_171_13 rfl rfl ?_
  refine xi_cmf (pc' := 17) kc_171_14 rfl rfl ?_
  refine xi_aload_n (pc' := 18) (x := 80) kc_171_17 rfl rfl ?_
  refine xi_getfield (pc' := 21) (v := .ref 83) kc_171_18 rfl rfl rfl e80 rfl ?_
  refine xi_iload_n (pc' := 22) (x := 14) kc_171_21 rfl rfl ?_
  refine xi_iaload (pc' := 23) (v := 2) kc_171_22 rfl e83 (by decide) rfl (xi_in (n := 24) (by decide) (by decide)) rfl ?_
  refine xi_iconst (pc' := 24) (v := 1) kc_171_23 rfl rfl ?_
  refine xi_cmt (pc' := 49) kc_171_24 rfl rfl ?_
  refine xi_iinc (pc' := 52) (x := 11) (v := 12) (lv' := [(3, .int 12), (2, .int 14), (1, .int 0), (0, .ref 80)]) kc_171_49 rfl rfl rfl rfl (xm_lt ml_171 rfl) ?_
  refine xi_goto (pc' := 12) kc_171_52 rfl ?_
  refine xi_iload_n (pc' := 13) (x := 12) kc_171_12 rfl rfl ?_
  refine xi_iload_n (pc' := 14) (x := 14) kc_171_13 rfl rfl ?_
  refine xi_cmf (pc' := 17) kc_171_14 rfl rfl ?_
  refine xi_aload_n (pc' := 18) (x := 80) kc_171_17 rfl rfl ?_
  refine xi_getfield (pc' := 21) (v := .ref 83) kc_171_18 rfl rfl rfl e80 rfl ?_
  refine xi_iload_n (pc' := 22) (x := 14) kc_171_21 rfl rfl ?_
  refine xi_iaload (pc' := 23) (v := 2) kc_171_22 rfl e83 (by decide) rfl (xi_in (n := 24) (by decide) (by decide)) rfl ?_
  refine xi_iconst (pc' := 24) (v := 1) kc_171_23 rfl rfl ?_
  refine xi_cmt (pc' := 49) kc_171_24 rfl rfl ?_
  refine xi_iinc (pc' := 52) (x := 12) (v := 13) (lv' := [(3, .int 13), (2, .int 14), (1, .int 0), (0, .ref 80)]) kc_171_49 rfl rfl rfl rfl (xm_lt ml_171 rfl) ?_
  refine xi_goto (pc' := 12) kc_171_52 rfl ?_
  refine xi_iload_n (pc' := 13) (x := 13) kc_171_12 rfl rfl ?_
  refine xi_iload_n (pc' := 14) (x := 14) kc_171_13 rfl rfl ?_
  refine xi_cmf (pc' := 17) kc_171_14 rfl rfl ?_
  refine xi_aload_n (pc' := 18) (x := 80) kc_171_17 rfl rfl ?_
  refine xi_getfield (pc' := 21) (v := .ref 83) kc_171_18 rfl rfl rfl e80 rfl ?_
  refine xi_iload_n (pc' := 22) (x := 14) kc_171_21 rfl rfl ?_
  refine xi_iaload (pc' := 23) (v := 2) kc_171_22 rfl e83 (by decide) rfl (xi_in (n := 24) (by decide) (by decide)) rfl ?_
  refine xi_iconst (pc' := 24) (v := 1) kc_171_23 rfl rfl ?_
  refine xi_cmt (pc' := 49) kc_171_24 rfl rfl ?_
  refine xi_iinc (pc' := 52) (x := 13) (v := 14) (lv' := [(3, .int 14), (2, .int 14), (1, .int 0), (0, .ref 80)]) kc_171_49 rfl rfl rfl rfl (xm_lt ml_171 rfl) ?_
  refine xi_goto (pc' := 12) kc_171_52 rfl ?_
  refine xi_iload_n (pc' := 13) (x := 14) kc_171_12 rfl rfl ?_
  refine xi_iload_n (pc' := 14) (x := 14) kc_171_13 rfl rfl ?_
  refine xi_cmt (pc' := 55) kc_171_14 rfl rfl ?_
  refine xi_iinc (pc' := 58) (x := 14) (v := 15) (lv' := [(2, .int 15), (3, .int 14), (1, .int 0), (0, .ref 80)]) kc_171_55 rfl rfl rfl rfl (xm_lt ml_171 rfl) ?_
  refine xi_goto (pc' := 4) kc_171_58 rfl ?_
  refine xi_iload_n (pc' := 5) (x := 15) kc_171_4 rfl rfl ?_
  refine xi_bipush (pc' := 7) (v := 24) kc_171_5 rfl rfl ?_
  refine xi_cmf (pc' := 10) kc_171_7 rfl rfl ?_
  refine xi_iconst (pc' := 11) (v := 0) kc_171_10 rfl rfl ?_
  refine xi_istore_n (pc' := 12) (lv' := [(3, .int 0), (2, .int 15), (1, .int 0), (0, .ref 80)]) kc_171_11 rfl rfl (xm_lt ml_171 rfl) ?_
  refine xi_iload_n (pc' := 13) (x := 0) kc_171_12 rfl rfl ?_
  refine xi_iload_n (pc' := 14) (x := 15) kc_171_13 rfl rfl ?_
  refine xi_cmf (pc' := 17) kc_171_14 rfl rfl ?_
  refine xi_aload_n (pc' := 18) (x := 80) kc_171_17 rfl rfl ?_
  refine xi_getfield (pc' := 21) (v := .ref 83) kc_171_18 rfl rfl rfl e80 rfl ?_
  refine xi_iload_n (pc' := 22) (x := 15) kc_171_21 rfl rfl ?_
  refine xi_iaload (pc' := 23) (v := 2) kc_171_22 rfl e83 (by decide) rfl (xi_in (n := 24) (by decide) (by decide)) rfl ?_
  refine xi_iconst (pc' := 24) (v := 1) kc_171_23 rfl rfl ?_
  refine xi_cmt (pc' := 49) kc_171_24 rfl rfl ?_
  refine xi_iinc (pc' := 52) (x := 0) (v := 1) (lv' := [(3, .int 1), (2, .int 15), (1, .int 0), (0, .ref 80)]) kc_171_49 rfl rfl rfl rfl (xm_lt ml_171 rfl) ?_
  refine xi_goto (pc' := 12) kc_171_52 rfl ?_
  refine xi_iload_n (pc' := 13) (x := 1) kc_171_12 rfl rfl ?_
  refine xi_iload_n (pc' := 14) (x := 15) kc_171_13 rfl rfl ?_
  refine xi_cmf (pc' := 17) kc_171_14 rfl rfl ?_
  refine xi_aload_n (pc' := 18) (x := 80) kc_171_17 rfl rfl ?_
  refine xi_getfield (pc' := 21) (v := .ref 83) kc_171_18 rfl rfl rfl e80 rfl ?_
  refine xi_iload_n (pc' := 22) (x := 15) kc_171_21 rfl rfl ?_
  refine xi_iaload (pc' := 23) (v := 2) kc_171_22 rfl e83 (by decide) rfl (xi_in (n := 24) (by decide) (by decide)) rfl ?_
  refine xi_iconst (pc' := 24) (v := 1) kc_171_23 rfl rfl ?_
  refine xi_cmt (pc' := 49) kc_171_24 rfl rfl ?_
  refine xi_iinc (pc' := 52) (x := 1) (v := 2) (lv' := [(3, .int 2), (2, .int 15), (1, .int 0), (0, .ref 80)]) kc_171_49 rfl rfl rfl rfl (xm_lt ml_171 rfl) ?_
  refine xi_goto (pc' := 12) kc_171_52 rfl ?_
  refine xi_iload_n (pc' := 13) (x := 2) kc_171_12 rfl rfl ?_
  refine xi_iload_n (pc' := 14) (x := 15) kc_171_13 rfl rfl ?_
  refine xi_cmf (pc' := 17) kc_171_14 rfl rfl ?_
  refine xi_aload_n (pc' := 18) (x := 80) kc_171_17 rfl rfl ?_
  refine xi_getfield (pc' := 21) (v := .ref 83) kc_171_18 rfl rfl rfl e80 rfl ?_
  refine xi_iload_n (pc' := 22) (x := 15) kc_171_21 rfl rfl ?_
  refine xi_iaload (pc' := 23) (v := 2) kc_171_22 rfl e83 (by decide) rfl (xi_in (n := 24) (by decide) (by decide)) rfl ?_
  refine xi_iconst (pc' := 24) (v := 1) kc_171_23 rfl rfl ?_
  refine xi_cmt (pc' := 49) kc_171_24 rfl rfl ?_
  refine xi_iinc (pc' := 52) (x := 2) (v := 3) (lv' := [(3, .int 3), (2, .int 15), (1, .int 0), (0, .ref 80)]) kc_171_49 rfl rfl rfl rfl (xm_lt ml_171 rfl) ?_
  refine xi_goto (pc' := 12) kc_171_52 rfl ?_
  refine xi_iload_n (pc' := 13) (x := 3) kc_171_12 rfl rfl ?_
  refine xi_iload_n (pc' := 14) (x := 15) kc_171_13 rfl rfl ?_
  refine xi_cmf (pc' := 17) kc_171_14 rfl rfl ?_
  refine xi_aload_n (pc' := 18) (x := 80) kc_171_17 rfl rfl ?_
  refine xi_getfield (pc' := 21) (v := .ref 83) kc_171_18 rfl rfl rfl e80 rfl ?_
  refine xi_iload_n (pc' := 22) (x := 15) kc_171_21 rfl rfl ?_
  refine xi_iaload (pc' := 23) (v := 2) kc_171_22 rfl e83 (by decide) rfl (xi_in (n := 24) (by decide) (by decide)) rfl ?_
  refine xi_iconst (pc' := 24) (v := 1) kc_171_23 rfl rfl ?_
  refine xi_cmt (pc' := 49) kc_171_24 rfl rfl ?_
  refine xi_iinc (pc' := 52) (x := 3) (v := 4) (lv' := [(3, .int 4), (2, .int 15), (1, .int 0), (0, .ref 80)]) kc_171_49 rfl rfl rfl rfl (xm_lt ml_171 rfl) ?_
  refine xi_goto (pc' := 12) kc_171_52 rfl ?_
  refine xi_iload_n (pc' := 13) (x := 4) kc_171_12 rfl rfl ?_
  refine xi_iload_n (pc' := 14) (x := 15) kc_171_13 rfl rfl ?_
  refine xi_cmf (pc' := 17) kc_171_14 rfl rfl ?_
  refine xi_aload_n (pc' := 18) (x := 80) kc_171_17 rfl rfl ?_
  refine xi_getfield (pc' := 21) (v := .ref 83) kc_171_18 rfl rfl rfl e80 rfl ?_
  refine xi_iload_n (pc' := 22) (x := 15) kc_171_21 rfl rfl ?_
  refine xi_iaload (pc' := 23) (v := 2) kc_171_22 rfl e83 (by decide) rfl (xi_in (n := 24) (by decide) (by decide)) rfl ?_
  refine xi_iconst (pc' := 24) (v := 1) kc_171_23 rfl rfl ?_
  refine xi_cmt (pc' := 49) kc_171_24 rfl rfl ?_
  refine xi_iinc (pc' := 52) (x := 4) (v := 5) (lv' := [(3, .int 5), (2, .int 15), (1, .int 0), (0, .ref 80)]) kc_171_49 rfl rfl rfl rfl (xm_lt ml_171 rfl) ?_
  refine xi_goto (pc' := 12) kc_171_52 rfl ?_
  refine xi_iload_n (pc' := 13) (x := 5) kc_171_12 rfl rfl ?_
  refine xi_iload_n (pc' := 14) (x := 15) kc_171_13 rfl rfl ?_
  refine xi_cmf (pc' := 17) kc_171_14 rfl rfl ?_
  refine xi_aload_n (pc' := 18) (x := 80) kc_171_17 rfl rfl ?_
  refine xi_getfield (pc' := 21) (v := .ref 83) kc_171_18 rfl rfl rfl e80 rfl ?_
  refine xi_iload_n (pc' := 22) (x := 15) kc_171_21 rfl rfl ?_
  refine xi_iaload (pc' := 23) (v := 2) kc_171_22 rfl e83 (by decide) rfl (xi_in (n := 24) (by decide) (by decide)) rfl ?_
  refine xi_iconst (pc' := 24) (v := 1) kc_171_23 rfl rfl ?_
  refine xi_cmt (pc' := 49) kc_171_24 rfl rfl ?_
  refine xi_iinc (pc' := 52) (x := 5) (v := 6) (lv' := [(3, .int 6), (2, .int 15), (1, .int 0), (0, .ref 80)]) kc_171_49 rfl rfl rfl rfl (xm_lt ml_171 rfl) ?_
  refine xi_goto (pc' := 12) kc_171_52 rfl ?_
  refine xi_iload_n (pc' := 13) (x := 6) kc_171_12 rfl rfl ?_
  refine xi_iload_n (pc' := 14) (x := 15) kc_171_13 rfl rfl ?_
  refine xi_cmf (pc' := 17) kc_171_14 rfl rfl ?_
  refine xi_aload_n (pc' := 18) (x := 80) kc_171_17 rfl rfl ?_
  refine xi_getfield (pc' := 21) (v := .ref 83) kc_171_18 rfl rfl rfl e80 rfl ?_
  refine xi_iload_n (pc' := 22) (x := 15) kc_171_21 rfl rfl ?_
  refine xi_iaload (pc' := 23) (v := 2) kc_171_22 rfl e83 (by decide) rfl (xi_in (n := 24) (by decide) (by decide)) rfl ?_
  refine xi_iconst (pc' := 24) (v := 1) kc_171_23 rfl rfl ?_
  refine xi_cmt (pc' := 49) kc_171_24 rfl rfl ?_
  refine xi_iinc (pc' := 52) (x := 6) (v := 7) (lv' := [(3, .int 7), (2, .int 15), (1, .int 0), (0, .ref 80)]) kc_171_49 rfl rfl rfl rfl (xm_lt ml_171 rfl) ?_
  refine xi_goto (pc' := 12) kc_171_52 rfl ?_
  refine xi_iload_n (pc' := 13) (x := 7) kc_171_12 rfl rfl ?_
  refine xi_iload_n (pc' := 14) (x := 15) kc_171_13 rfl rfl ?_
  refine xi_cmf (pc' := 17) kc_171_14 rfl rfl ?_
  refine xi_aload_n (pc' := 18) (x := 80) kc_171_17 rfl rfl ?_
  refine xi_getfield (pc' := 21) (v := .ref 83) kc_171_18 rfl rfl rfl e80 rfl ?_
  refine xi_iload_n (pc' := 22) (x := 15) kc_171_21 rfl rfl ?_
  refine xi_iaload (pc' := 23) (v := 2) kc_171_22 rfl e83 (by decide) rfl (xi_in (n := 24) (by decide) (by decide)) rfl ?_
  refine xi_iconst (pc' := 24) (v := 1) kc_171_23 rfl rfl ?_
  refine xi_cmt (pc' := 49) kc_171_24 rfl rfl ?_
  refine xi_iinc (pc' := 52) (x := 7) (v := 8) (lv' := [(3, .int 8), (2, .int 15), (1, .int 0), (0, .ref 80)]) kc_171_49 rfl rfl rfl rfl (xm_lt ml_171 rfl) ?_
  refine xi_goto (pc' := 12) kc_171_52 rfl ?_
  refine xi_iload_n (pc' := 13) (x := 8) kc_171_12 rfl rfl ?_
  refine xi_iload_n (pc' := 14) (x := 15) kc_171_13 rfl rfl ?_
  refine xi_cmf (pc' := 17) kc_171_14 rfl rfl ?_
  refine xi_aload_n (pc' := 18) (x := 80) kc_171_17 rfl rfl ?_
  refine xi_getfield (pc' := 21) (v := .ref 83) kc_171_18 rfl rfl rfl e80 rfl ?_
  refine xi_iload_n (pc' := 22) (x := 15) kc_171_21 rfl rfl ?_
  refine xi_iaload (pc' := 23) (v := 2) kc_171_22 rfl e83 (by decide) rfl (xi_in (n := 24) (by decide) (by decide)) rfl ?_
  refine xi_iconst (pc' := 24) (v := 1) kc_171_23 rfl rfl ?_
  refine xi_cmt (pc' := 49) kc_171_24 rfl rfl ?_
  refine xi_iinc (pc' := 52) (x := 8) (v := 9) (lv' := [(3, .int 9), (2, .int 15), (1, .int 0), (0, .ref 80)]) kc_171_49 rfl rfl rfl rfl (xm_lt ml_171 rfl) ?_
  refine xi_goto (pc' := 12) kc_171_52 rfl ?_
  refine xi_iload_n (pc' := 13) (x := 9) kc_171_12 rfl rfl ?_
  refine xi_iload_n (pc' := 14) (x := 15) kc_171_13 rfl rfl ?_
  refine xi_cmf (pc' := 17) kc_171_14 rfl rfl ?_
  refine xi_aload_n (pc' := 18) (x := 80) kc_171_17 rfl rfl ?_
  refine xi_getfield (pc' := 21) (v := .ref 83) kc_171_18 rfl rfl rfl e80 rfl ?_
  refine xi_iload_n (pc' := 22) (x := 15) kc_171_21 rfl rfl ?_
  refine xi_iaload (pc' := 23) (v := 2) kc_171_22 rfl e83 (by decide) rfl (xi_in (n := 24) (by decide) (by decide)) rfl ?_
  refine xi_iconst (pc' := 24) (v := 1) kc_171_23 rfl rfl ?_
  refine xi_cmt (pc' := 49) kc_171_24 rfl rfl ?_
  refine xi_iinc (pc' := 52) (x := 9) (v := 10) (lv' := [(3, .int 10), (2, .int 15), (1, .int 0), (0, .ref 80)]) kc_171_49 rfl rfl rfl rfl (xm_lt ml_171 rfl) ?_
  refine xi_goto (pc' := 12) kc_171_52 rfl ?_
  refine xi_iload_n (pc' := 13) (x := 10) kc_171_12 rfl rfl ?_
  refine xi_iload_n (pc' := 14) (x := 15) kc_171_13 rfl rfl ?_
  refine xi_cmf (pc' := 17) kc_171_14 rfl rfl ?_
  refine xi_aload_n (pc' := 18) (x := 80) kc_171_17 rfl rfl ?_
  refine xi_getfield (pc' := 21) (v := .ref 83) kc_171_18 rfl rfl rfl e80 rfl ?_
  refine xi_iload_n (pc' := 22) (x := 15) kc_171_21 rfl rfl ?_
  refine xi_iaload (pc' := 23) (v := 2) kc_171_22 rfl e83 (by decide) rfl (xi_in (n := 24) (by decide) (by decide)) rfl ?_
  refine xi_iconst (pc' := 24) (v := 1) kc_171_23 rfl rfl ?_
  refine xi_cmt (pc' := 49) kc_171_24 rfl rfl ?_
  refine xi_iinc (pc' := 52) (x := 10) (v := 11) (lv' := [(3, .int 11), (2, .int 15), (1, .int 0), (0, .ref 80)]) kc_171_49 rfl rfl rfl rfl (xm_lt ml_171 rfl) ?_
  refine xi_goto (pc' := 12) kc_171_52 rfl ?_
  refine xi_iload_n (pc' := 13) (x := 11) kc_171_12 rfl rfl ?_
  refine xi_iload_n (pc' := 14) (x := 15) kc_171_13 rfl rfl ?_
  refine xi_cmf (pc' := 17) kc_171_14 rfl rfl ?_
  refine xi_aload_n (pc' := 18) (x := 80) kc_171_17 rfl rfl ?_
  refine xi_getfield (pc' := 21) (v := .ref 83) kc_171_18 rfl rfl rfl e80 rfl ?_
  refine xi_iload_n (pc' := 22) (x := 15) kc_171_21 rfl rfl ?_
  refine xi_iaload (pc' := 23) (v := 2) kc_171_22 rfl e83 (by decide) rfl (xi_in (n := 24) (by decide) (by decide)) rfl ?_
  refine xi_iconst (pc' := 24) (v := 1) kc_171_23 rfl rfl ?_
  refine xi_cmt (pc' := 49) kc_171_24 rfl rfl ?_
  refine xi_iinc (pc' := 52) (x := 11) (v := 12) (lv' := [(3, .int 12), (2, .int 15), (1, .int 0), (0, .ref 80)]) kc_171_49 rfl rfl rfl rfl (xm_lt ml_171 rfl) ?_
  refine xi_goto (pc' := 12) kc_171_52 rfl ?_
  refine xi_iload_n (pc' := 13) (x := 12) kc_171_12 rfl rfl ?_
  refine xi_iload_n (pc' := 14) (x := 15) kc_171_13 rfl rfl ?_
  refine xi_cmf (pc' := 17) kc_171_14 rfl rfl ?_
  refine xi_aload_n (pc' := 18) (x := 80) kc_171_17 rfl rfl ?_
  refine xi_getfield (pc' := 21) (v := .ref 83) kc_171_18 rfl rfl rfl e80 rfl ?_
  refine xi_iload_n (pc' := 22) (x := 15) kc_171_21 rfl rfl ?_
  refine xi_iaload (pc' := 23) (v := 2) kc_171_22 rfl e83 (by decide) rfl (xi_in (n := 24) (by decide) (by decide)) rfl ?_
  refine xi_iconst (pc' := 24) (v := 1) kc_171_23 rfl rfl ?_
  refine xi_cmt (pc' := 49) kc_171_24 rfl rfl ?_
  refine xi_iinc (pc' := 52) (x := 12) (v := 13) (lv' := [(3, .int 13), (2, .int 15), (1, .int 0), (0, .ref 80)]) kc_171_49 rfl rfl rfl rfl (xm_lt ml_171 rfl) ?_
  refine xi_goto (pc' := 12) kc_171_52 rfl ?_
  refine xi_iload_n (pc' := 13) (x := 13) kc_171_12 rfl rfl ?_
  refine xi_iload_n (pc' := 14) (x := 15) kc_171_13 rfl rfl ?_
  refine xi_cmf (pc' := 17) kc_171_14 rfl rfl ?_
  refine xi_aload_n (pc' := 18) (x := 80) kc_171_17 rfl rfl ?_
  refine xi_getfield (pc' := 21) (v := .ref 83) kc_171_18 rfl rfl rfl e80 rfl ?_
  refine xi_iload_n (pc' := 22) (x := 15) kc_171_21 rfl rfl ?_
  refine xi_iaload (pc' := 23) (v := 2) kc_171_22 rfl e83 (by decide) rfl (xi_in (n := 24) (by decide) (by decide)) rfl ?_
  refine xi_iconst (pc' := 24) (v := 1) kc_171_23 rfl rfl ?_
  refine xi_cmt (pc' := 49) kc_171_24 rfl rfl ?_
  refine xi_iinc (pc' := 52) (x := 13) (v := 14) (lv' := [(3, .int 14), (2, .int 15), (1, .int 0), (0, .ref 80)]) kc_171_49 rfl rfl rfl rfl (xm_lt ml_171 rfl) ?_
  refine xi_goto (pc' := 12) kc_171_52 rfl ?_
  refine xi_iload_n (pc' := 13) (x := 14) kc_171_12 rfl rfl ?_
  refine xi_iload_n (pc' := 14) (x := 15) kc_171_13 rfl rfl ?_
  refine xi_cmf (pc' := 17) kc_171_14 rfl rfl ?_
  refine xi_aload_n (pc' := 18) (x := 80) kc_171_17 rfl rfl ?_
  refine xi_getfield (pc' := 21) (v := .ref 83) kc_171_18 rfl rfl rfl e80 rfl ?_
  refine xi_iload_n (pc' := 22) (x := 15) kc_171_21 rfl rfl ?_
  refine xi_iaload (pc' := 23) (v := 2) kc_171_22 rfl e83 (by decide) rfl (xi_in (n := 24) (by decide) (by decide)) rfl ?_
  refine xi_iconst (pc' := 24) (v := 1) kc_171_23 rfl rfl ?_
  refine xi_cmt (pc' := 49) kc_171_24 rfl rfl ?_
  refine xi_iinc (pc' := 52) (x := 14) (v := 15) (lv' := [(3, .int 15), (2, .int 15), (1, .int 0), (0, .ref 80)]) kc_171_49 rfl rfl rfl rfl (xm_lt ml_171 rfl) ?_
  refine xi_goto (pc' := 12) kc_171_52 rfl ?_
  refine xi_iload_n (pc' := 13) (x := 15) kc_171_12 rfl rfl ?_
  refine xi_iload_n (pc' := 14) (x := 15) kc_171_13 rfl rfl ?_
  refine xi_cmt (pc' := 55) kc_171_14 rfl rfl ?_
  refine xi_iinc (pc' := 58) (x := 15) (v := 16) (lv' := [(2, .int 16), (3, .int 15), (1, .int 0), (0, .ref 80)]) kc_171_55 rfl rfl rfl rfl (xm_lt ml_171 rfl) ?_
  refine xi_goto (pc' := 4) kc_171_58 rfl ?_
  refine xi_iload_n (pc' := 5) (x := 16) kc_171_4 rfl rfl ?_
  refine xi_bipush (pc' := 7) (v := 24) kc_171_5 rfl rfl ?_
  refine xi_cmf (pc' := 10) kc_171_7 rfl rfl ?_
  refine xi_iconst (pc' := 11) (v := 0) kc_171_10 rfl rfl ?_
  refine xi_istore_n (pc' := 12) (lv' := [(3, .int 0), (2, .int 16), (1, .int 0), (0, .ref 80)]) kc_171_11 rfl rfl (xm_lt ml_171 rfl) ?_
  refine xi_iload_n (pc' := 13) (x := 0) kc_171_12 rfl rfl ?_
  refine xi_iload_n (pc' := 14) (x := 16) kc_171_13 rfl rfl ?_
  refine xi_cmf (pc' := 17) kc_171_14 rfl rfl ?_
  refine xi_aload_n (pc' := 18) (x := 80) kc_171_17 rfl rfl ?_
  refine xi_getfield (pc' := 21) (v := .ref 83) kc_171_18 rfl rfl rfl e80 rfl ?_
  refine xi_iload_n (pc' := 22) (x := 16) kc_171_21 rfl rfl ?_
  refine xi_iaload (pc' := 23) (v := 2) kc_171_22 rfl e83 (by decide) rfl (xi_in (n := 24) (by decide) (by decide)) rfl ?_
  refine xi_iconst (pc' := 24) (v := 1) kc_171_23 rfl rfl ?_
  refine xi_cmt (pc' := 49) kc_171_24 rfl rfl ?_
  refine xi_iinc (pc' := 52) (x := 0) (v := 1) (lv' := [(3, .int 1), (2, .int 16), (1, .int 0), (0, .ref 80)]) kc_171_49 rfl rfl rfl rfl (xm_lt ml_171 rfl) ?_
  refine xi_goto (pc' := 12) kc_171_52 rfl ?_
  refine xi_iload_n (pc' := 13) (x := 1) kc_171_12 rfl rfl ?_
  refine xi_iload_n (pc' := 14) (x := 16) kc_171_13 rfl rfl ?_
  refine xi_cmf (pc' := 17) kc_171_14 rfl rfl ?_
  refine xi_aload_n (pc' := 18) (x := 80) kc_171_17 rfl rfl ?_
  refine xi_getfield (pc' := 21) (v := .ref 83) kc_171_18 rfl rfl rfl e80 rfl ?_
  refine xi_iload_n (pc' := 22) (x := 16) kc_171_21 rfl rfl ?_
  refine xi_iaload (pc' := 23) (v := 2) kc_171_22 rfl e83 (by decide) rfl (xi_in (n := 24) (by decide) (by decide)) rfl ?_
  refine xi_iconst (pc' := 24) (v := 1) kc_171_23 rfl rfl ?_
  refine xi_cmt (pc' := 49) kc_171_24 rfl rfl ?_
  refine xi_iinc (pc' := 52) (x := 1) (v := 2) (lv' := [(3, .int 2), (2, .int 16), (1, .int 0), (0, .ref 80)]) kc_171_49 rfl rfl rfl rfl (xm_lt ml_171 rfl) ?_
  refine xi_goto (pc' := 12) kc_171_52 rfl ?_
  refine xi_iload_n (pc' := 13) (x := 2) kc_171_12 rfl rfl ?_
  refine xi_iload_n (pc' := 14) (x := 16) kc_171_13 rfl rfl ?_
  refine xi_cmf (pc' := 17) kc_171_14 rfl rfl ?_
  refine xi_aload_n (pc' := 18) (x := 80) kc_171_17 rfl rfl ?_
  refine xi_getfield (pc' := 21) (v := .ref 83) kc_171_18 rfl rfl rfl e80 rfl ?_
  refine xi_iload_n (pc' := 22) (x := 16) kc_171_21 rfl rfl ?_
  refine xi_iaload (pc' := 23) (v := 2) kc_171_22 rfl e83 (by decide) rfl (xi_in (n := 24) (by decide) (by decide)) rfl ?_
  refine xi_iconst (pc' := 24) (v := 1) kc_171_23 rfl rfl ?_
  refine xi_cmt (pc' := 49) kc_171_24 rfl rfl ?_
  refine xi_iinc (pc' := 52) (x := 2) (v := 3) (lv' := [(3, .int 3), (2, .int 16), (1, .int 0), (0, .ref 80)]) kc_171_49 rfl rfl rfl rfl (xm_lt ml_171 rfl) ?_
  refine xi_goto (pc' := 12) kc_171_52 rfl ?_
  refine xi_iload_n (pc' := 13) (x := 3) kc_171_12 rfl rfl ?_
  refine xi_iload_n (pc' := 14) (x := 16) kc_171_13 rfl rfl ?_
  refine xi_cmf (pc' := 17) kc_171_14 rfl rfl ?_
  refine xi_aload_n (pc' := 18) (x := 80) kc_171_17 rfl rfl ?_
  refine xi_getfield (pc' := 21) (v := .ref 83) kc_171_18 rfl rfl rfl e80 rfl ?_
  refine xi_iload_n (pc' := 22) (x := 16) kc_171_21 rfl rfl ?_
  refine xi_iaload (pc' := 23) (v := 2) kc_171_22 rfl e83 (by decide) rfl (xi_in (n := 24) (by decide) (by decide)) rfl ?_
  refine xi_iconst (pc' := 24) (v := 1) kc_171_23 rfl rfl ?_
  refine xi_cmt (pc' := 49) kc_171_24 rfl rfl ?_
  refine xi_iinc (pc' := 52) (x := 3) (v := 4) (lv' := [(3, .int 4), (2, .int 16), (1, .int 0), (0, .ref 80)]) kc_171_49 rfl rfl rfl rfl (xm_lt ml_171 rfl) ?_
  refine xi_goto (pc' := 12) kc_171_52 rfl ?_
  refine xi_iload_n (pc' := 13) (x := 4) kc_171_12 rfl rfl ?_
  refine xi_iload_n (pc' := 14) (x := 16) kc_171_13 rfl rfl ?_
  refine xi_cmf (pc' := 17) kc_171_14 rfl rfl ?_
  refine xi_aload_n (pc' := 18) (x := 80) kc_171_17 rfl rfl ?_
  refine xi_getfield (pc' := 21) (v := .ref 83) kc_171_18 rfl rfl rfl e80 rfl ?_
  refine xi_iload_n (pc' := 22) (x := 16) kc_171_21 rfl rfl ?_
  refine xi_iaload (pc' := 23) (v := 2) kc_171_22 rfl e83 (by decide) rfl (xi_in (n := 24) (by decide) (by decide)) rfl ?_
  refine xi_iconst (pc' := 24) (v := 1) kc_171_23 rfl rfl ?_
  refine xi_cmt (pc' := 49) kc_171_24 rfl rfl ?_
  refine xi_iinc (pc' := 52) (x := 4) (v := 5) (lv' := [(3, .int 5), (2, .int 16), (1, .int 0), (0, .ref 80)]) kc_171_49 rfl rfl rfl rfl (xm_lt ml_171 rfl) ?_
  refine xi_goto (pc' := 12) kc_171_52 rfl ?_
  refine xi_iload_n (pc' := 13) (x := 5) kc_171_12 rfl rfl ?_
  refine xi_iload_n (pc' := 14) (x := 16) kc_171_13 rfl rfl ?_
  refine xi_cmf (pc' := 17) kc_171_14 rfl rfl ?_
  refine xi_aload_n (pc' := 18) (x := 80) kc_171_17 rfl rfl ?_
  refine xi_getfield (pc' := 21) (v := .ref 83) kc_171_18 rfl rfl rfl e80 rfl ?_
  refine xi_iload_n (pc' := 22) (x := 16) kc_171_21 rfl rfl ?_
  refine xi_iaload (pc' := 23) (v := 2) kc_171_22 rfl e83 (by decide) rfl (xi_in (n := 24) (by decide) (by decide)) rfl ?_
  refine xi_iconst (pc' := 24) (v := 1) kc_171_23 rfl rfl ?_
  refine xi_cmt (pc' := 49) kc_171_24 rfl rfl ?_
  refine xi_iinc (pc' := 52) (x := 5) (v := 6) (lv' := [(3, .int 6), (2, .int 16), (1, .int 0), (0, .ref 80)]) kc_171_49 rfl rfl rfl rfl (xm_lt ml_171 rfl) ?_
  refine xi_goto (pc' := 12) kc_171_52 rfl ?_
  refine xi_iload_n (pc' := 13) (x := 6) kc_171_12 rfl rfl ?_
  refine xi_iload_n (pc' := 14) (x := 16) kc_171_13 rfl rfl ?_
  refine xi_cmf (pc' := 17) kc_171_14 rfl rfl ?_
  refine xi_aload_n (pc' := 18) (x := 80) kc_171_17 rfl rfl ?_
  refine xi_getfield (pc' := 21) (v := .ref 83) kc_171_18 rfl rfl rfl e80 rfl ?_
  refine xi_iload_n (pc' := 22) (x := 16) kc_171_21 rfl rfl ?_
  refine xi_iaload (pc' := 23) (v := 2) kc_171_22 rfl e83 (by decide) rfl (xi_in (n := 24) (by decide) (by decide)) rfl ?_
  refine xi_iconst (pc' := 24) (v := 1) kc_171_23 rfl rfl ?_
  refine xi_cmt (pc' := 49) kc_171_24 rfl rfl ?_
  refine xi_iinc (pc' := 52) (x := 6) (v := 7) (lv' := [(3, .int 7), (2, .int 16), (1, .int 0), (0, .ref 80)]) kc_171_49 rfl rfl rfl rfl (xm_lt ml_171 rfl) ?_
  refine xi_goto (pc' := 12) kc_171_52 rfl ?_
  refine xi_iload_n (pc' := 13) (x := 7) kc_171_12 rfl rfl ?_
  refine xi_iload_n (pc' := 14) (x := 16) kc_171_13 rfl rfl ?_
  refine xi_cmf (pc' := 17) kc_171_14 rfl rfl ?_
  refine xi_aload_n (pc' := 18) (x := 80) kc_171_17 rfl rfl ?_
  refine xi_getfield (pc' := 21) (v := .ref 83) kc_171_18 rfl rfl rfl e80 rfl ?_
  refine xi_iload_n (pc' := 22) (x := 16) kc_171_21 rfl rfl ?_
  refine xi_iaload (pc' := 23) (v := 2) kc_171_22 rfl e83 (by decide) rfl (xi_in (n := 24) (by decide) (by decide)) rfl ?_
  refine xi_iconst (pc' := 24) (v := 1) kc_171_23 rfl rfl ?_
  refine xi_cmt (pc' := 49) kc_171_24 rfl rfl ?_
  refine xi_iinc (pc' := 52) (x := 7) (v := 8) (lv' := [(3, .int 8), (2, .int 16), (1, .int 0), (0, .ref 80)]) kc_171_49 rfl rfl rfl rfl (xm_lt ml_171 rfl) ?_
  refine xi_goto (pc' := 12) kc_171_52 rfl ?_
  refine xi_iload_n (pc' := 13) (x := 8) kc_171_12 rfl rfl ?_
  refine xi_iload_n (pc' := 14) (x := 16) kc_171_13 rfl rfl ?_
  refine xi_cmf (pc' := 17) kc_171_14 rfl rfl ?_
  refine xi_aload_n (pc' := 18) (x := 80) kc_171_17 rfl rfl ?_
  refine xi_getfield (pc' := 21) (v := .ref 83) kc_171_18 rfl rfl rfl e80 rfl ?_
  refine xi_iload_n (pc' := 22) (x := 16) kc_171_21 rfl rfl ?_
  refine xi_iaload (pc' := 23) (v := 2) kc_171_22 rfl e83 (by decide) rfl (xi_in (n := 24) (by decide) (by decide)) rfl ?_
  refine xi_iconst (pc' := 24) (v := 1) kc_171_23 rfl rfl ?_
  refine xi_cmt (pc' := 49) kc_171_24 rfl rfl ?_
  refine xi_iinc (pc' := 52) (x := 8) (v := 9) (lv' := [(3, .int 9), (2, .int 16), (1, .int 0), (0, .ref 80)]) kc_171_49 rfl rfl rfl rfl (xm_lt ml_171 rfl) ?_
  refine xi_goto (pc' := 12) kc_171_52 rfl ?_
  refine xi_iload_n (pc' := 13) (x := 9) kc_171_12 rfl rfl ?_
  refine xi_iload_n (pc' := 14) (x := 16) kc_171_13 rfl rfl ?_
  refine xi_cmf (pc' := 17) kc_171_14 rfl rfl ?_
  refine xi_aload_n (pc' := 18) (x := 80) kc_171_17 rfl rfl ?_
  refine xi_getfield (pc' := 21) (v := .ref 83) kc_171_18 rfl rfl rfl e80 rfl ?_
  refine xi_iload_n (pc' := 22) (x := 16) kc_171_21 rfl rfl ?_
  refine xi_iaload (pc' := 23) (v := 2) kc_171_22 rfl e83 (by decide) rfl (xi_in (n := 24) (by decide) (by decide)) rfl ?_
  refine xi_iconst (pc' := 24) (v := 1) kc_171_23 rfl rfl ?_
  refine xi_cmt (pc' := 49) kc_171_24 rfl rfl ?_
  refine xi_iinc (pc' := 52) (x := 9) (v := 10) (lv' := [(3, .int 10), (2, .int 16), (1, .int 0), (0, .ref 80)]) kc_171_49 rfl rfl rfl rfl (xm_lt ml_171 rfl) ?_
  refine xi_goto (pc' := 12) kc_171_52 rfl ?_
  refine xi_iload_n (pc' := 13) (x := 10) kc_171_12 rfl rfl ?_
  refine xi_iload_n (pc' := 14) (x := 16) kc_171_13 rfl rfl ?_
  refine xi_cmf (pc' := 17) kc_171_14 rfl rfl ?_
  refine xi_aload_n (pc' := 18) (x := 80) kc_171_17 rfl rfl ?_
  refine xi_getfield (pc' := 21) (v := .ref 83) kc_171_18 rfl rfl rfl e80 rfl ?_
  refine xi_iload_n (pc' := 22) (x := 16) kc_171_21 rfl rfl ?_
  refine xi_iaload (pc' := 23) (v := 2) kc_171_22 rfl e83 (by decide) rfl (xi_in (n := 24) (by decide) (by decide)) rfl ?_
  refine xi_iconst (pc' := 24) (v := 1) kc_171_23 rfl rfl ?_
  refine xi_cmt (pc' := 49) kc_171_24 rfl rfl ?_
  refine xi_iinc (pc' := 52) (x := 10) (v := 11) (lv' := [(3, .int 11), (2, .int 16), (1, .int 0), (0, .ref 80)]) kc_171_49 rfl rfl rfl rfl (xm_lt ml_171 rfl) ?_
  refine xi_goto (pc' := 12) kc_171_52 rfl ?_
  refine xi_iload_n (pc' := 13) (x := 11) kc_171_12 rfl rfl ?_
  refine xi_iload_n (pc' := 14) (x := 16) kc_171_13 rfl rfl ?_
  refine xi_cmf (pc' := 17) kc_171_14 rfl rfl ?_
  refine xi_aload_n (pc' := 18) (x := 80) kc_171_17 rfl rfl ?_
  refine xi_getfield (pc' := 21) (v := .ref 83) kc_171_18 rfl rfl rfl e80 rfl ?_
  refine xi_iload_n (pc' := 22) (x := 16) kc_171_21 rfl rfl ?_
  refine xi_iaload (pc' := 23) (v := 2) kc_171_22 rfl e83 (by decide) rfl (xi_in (n := 24) (by decide) (by decide)) rfl ?_
  refine xi_iconst (pc' := 24) (v := 1) kc_171_23 rfl rfl ?_
  refine xi_cmt (pc' := 49) kc_171_24 rfl rfl ?_
  refine xi_iinc (pc' := 52) (x := 11) (v := 12) (lv' := [(3, .int 12), (2, .int 16), (1, .int 0), (0, .ref 80)]) kc_171_49 rfl rfl rfl rfl (xm_lt ml_171 rfl) ?_
  refine xi_goto (pc' := 12) kc_171_52 rfl ?_
  refine xi_iload_n (pc' := 13) (x := 12) kc_171_12 rfl rfl ?_
  refine xi_iload_n (pc' := 14) (x := 16) kc_171_13 rfl rfl ?_
  refine xi_cmf (pc' := 17) kc_171_14 rfl rfl ?_
  refine xi_aload_n (pc' := 18) (x := 80) kc_171_17 rfl rfl ?_
  refine xi_getfield (pc' := 21) (v := .ref 83) kc_171_18 rfl rfl rfl e80 rfl ?_
  refine xi_iload_n (pc' := 22) (x := 16) kc_171_21 rfl rfl ?_
  refine xi_iaload (pc' := 23) (v := 2) kc_171_22 rfl e83 (by decide) rfl (xi_in (n := 24) (by decide) (by decide)) rfl ?_
  refine xi_iconst (pc' := 24) (v := 1) kc_171_23 rfl rfl ?_
  refine xi_cmt (pc' := 49) kc_171_24 rfl rfl ?_
  refine xi_iinc (pc' := 52) (x := 12) (v := 13) (lv' := [(3, .int 13), (2, .int 16), (1, .int 0), (0, .ref 80)]) kc_171_49 rfl rfl rfl rfl (xm_lt ml_171 rfl) ?_
  refine xi_goto (pc' := 12) kc_171_52 rfl ?_
  refine xi_iload_n (pc' := 13) (x := 13) kc_171_12 rfl rfl ?_
  refine xi_iload_n (pc' := 14) (x := 16) kc_171_13 rfl rfl ?_
  refine xi_cmf (pc' := 17) kc_171_14 rfl rfl ?_
  refine xi_aload_n (pc' := 18) (x := 80) kc_171_17 rfl rfl ?_
  refine xi_getfield (pc' := 21) (v := .ref 83) kc_171_18 rfl rfl rfl e80 rfl ?_
  refine xi_iload_n (pc' := 22) (x := 16) kc_171_21 rfl rfl ?_
  refine xi_iaload (pc' := 23) (v := 2) kc_171_22 rfl e83 (by decide) rfl (xi_in (n := 24) (by decide) (by decide)) rfl ?_
  refine xi_iconst (pc' := 24) (v := 1) kc_171_23 rfl rfl ?_
  refine xi_cmt (pc' := 49) kc_171_24 rfl rfl ?_
  refine xi_iinc (pc' := 52) (x := 13) (v := 14) (lv' := [(3, .int 14), (2, .int 16), (1, .int 0), (0, .ref 80)]) kc_171_49 rfl rfl rfl rfl (xm_lt ml_171 rfl) ?_
  refine xi_goto (pc' := 12) kc_171_52 rfl ?_
  refine xi_iload_n (pc' := 13) (x := 14) kc_171_12 rfl rfl ?_
  refine xi_iload_n (pc' := 14) (x := 16) kc_171_13 rfl rfl ?_
  refine xi_cmf (pc' := 17) kc_171_14 rfl rfl ?_
  refine xi_aload_n (pc' := 18) (x := 80) kc_171_17 rfl rfl ?_
  refine xi_getfield (pc' := 21) (v := .ref 83) kc_171_18 rfl rfl rfl e80 rfl ?_
  refine xi_iload_n (pc' := 22) (x := 16) kc_171_21 rfl rfl ?_
  refine xi_iaload (pc' := 23) (v := 2) kc_171_22 rfl e83 (by decide) rfl (xi_in (n := 24) (by decide) (by decide)) rfl ?_
  refine xi_iconst (pc' := 24) (v := 1) kc_171_23 rfl rfl ?_
  refine xi_cmt (pc' := 49) kc_171_24 rfl rfl ?_
  refine xi_iinc (pc' := 52) (x := 14) (v := 15) (lv' := [(3, .int 15), (2, .int 16), (1, .int 0), (0, .ref 80)]) kc_171_49 rfl rfl rfl rfl (xm_lt ml_171 rfl) ?_
  refine xi_goto (pc' := 12) kc_171_52 rfl ?_
  refine xi_iload_n (pc' := 13) (x := 15) kc_171_12 rfl rfl ?_
  refine xi_iload_n (pc' := 14) (x := 16) kc_171_13 rfl rfl ?_
  refine xi_cmf (pc' := 17) kc_171_14 rfl rfl ?_
  refine xi_aload_n (pc' := 18) (x := 80) kc_171_17 rfl rfl ?_
  refine xi_getfield (pc' := 21) (v := .ref 83) kc_171_18 rfl rfl rfl e80 rfl ?_
  refine xi_iload_n (pc' := 22) (x := 16) kc_171_21 rfl rfl ?_
  refine xi_iaload (pc' := 23) (v := 2) kc_171_22 rfl e83 (by decide) rfl (xi_in (n := 24) (by decide) (by decide)) rfl ?_
  refine xi_iconst (pc' := 24) (v := 1) kc_171_23 rfl rfl ?_
  refine xi_cmt (pc' := 49) kc_171_24 rfl rfl ?_
  refine xi_iinc (pc' := 52) (x := 15) (v := 16) (lv' := [(3, .int 16), (2, .int 16), (1, .int 0), (0, .ref 80)]) kc_171_49 rfl rfl rfl rfl (xm_lt ml_171 rfl) ?_
  refine xi_goto (pc' := 12) kc_171_52 rfl ?_
  refine xi_iload_n (pc' := 13) (x := 16) kc_171_12 rfl rfl ?_
  refine xi_iload_n (pc' := 14) (x := 16) kc_171_13 rfl rfl ?_
  refine xi_cmt (pc' := 55) kc_171_14 rfl rfl ?_
  refine xi_iinc (pc' := 58) (x := 16) (v := 17) (lv' := [(2, .int 17), (3, .int 16), (1, .int 0), (0, .ref 80)]) kc_171_55 rfl rfl rfl rfl (xm_lt ml_171 rfl) ?_
  refine xi_goto (pc' := 4) kc_171_58 rfl ?_
  refine xi_iload_n (pc' := 5) (x := 17) kc_171_4 rfl rfl ?_
  refine xi_bipush (pc' := 7) (v := 24) kc_171_5 rfl rfl ?_
  refine xi_cmf (pc' := 10) kc_171_7 rfl rfl ?_
  refine xi_iconst (pc' := 11) (v := 0) kc_171_10 rfl rfl ?_
  refine xi_istore_n (pc' := 12) (lv' := [(3, .int 0), (2, .int 17), (1, .int 0), (0, .ref 80)]) kc_171_11 rfl rfl (xm_lt ml_171 rfl) ?_
  refine xi_iload_n (pc' := 13) (x := 0) kc_171_12 rfl rfl ?_
  refine xi_iload_n (pc' := 14) (x := 17) kc_171_13 rfl rfl ?_
  refine xi_cmf (pc' := 17) kc_171_14 rfl rfl ?_
  refine xi_aload_n (pc' := 18) (x := 80) kc_171_17 rfl rfl ?_
  refine xi_getfield (pc' := 21) (v := .ref 83) kc_171_18 rfl rfl rfl e80 rfl ?_
  refine xi_iload_n (pc' := 22) (x := 17) kc_171_21 rfl rfl ?_
  refine xi_iaload (pc' := 23) (v := 2) kc_171_22 rfl e83 (by decide) rfl (xi_in (n := 24) (by decide) (by decide)) rfl ?_
  refine xi_iconst (pc' := 24) (v := 1) kc_171_23 rfl rfl ?_
  refine xi_cmt (pc' := 49) kc_171_24 rfl rfl ?_
  refine xi_iinc (pc' := 52) (x := 0) (v := 1) (lv' := [(3, .int 1), (2, .int 17), (1, .int 0), (0, .ref 80)]) kc_171_49 rfl rfl rfl rfl (xm_lt ml_171 rfl) ?_
  refine xi_goto (pc' := 12) kc_171_52 rfl ?_
  refine xi_iload_n (pc' := 13) (x := 1) kc_171_12 rfl rfl ?_
  refine xi_iload_n (pc' := 14) (x := 17) kc_171_13 rfl rfl ?_
  refine xi_cmf (pc' := 17) kc_171_14 rfl rfl ?_
  refine xi_aload_n (pc' := 18) (x := 80) kc_171_17 rfl rfl ?_
  refine xi_getfield (pc' := 21) (v := .ref 83) kc_171_18 rfl rfl rfl e80 rfl ?_
  refine xi_iload_n (pc' := 22) (x := 17) kc_171_21 rfl rfl ?_
  refine xi_iaload (pc' := 23) (v := 2) kc_171_22 rfl e83 (by decide) rfl (xi_in (n := 24) (by decide) (by decide)) rfl ?_
  refine xi_iconst (pc' := 24) (v := 1) kc_171_23 rfl rfl ?_
  refine xi_cmt (pc' := 49) kc_171_24 rfl rfl ?_
  refine xi_iinc (pc' := 52) (x := 1) (v := 2) (lv' := [(3, .int 2), (2, .int 17), (1, .int 0), (0, .ref 80)]) kc_171_49 rfl rfl rfl rfl (xm_lt ml_171 rfl) ?_
  refine xi_goto (pc' := 12) kc_171_52 rfl ?_
  refine xi_iload_n (pc' := 13) (x := 2) kc_171_12 rfl rfl ?_
  refine xi_iload_n (pc' := 14) (x := 17) kc_171_13 rfl rfl ?_
  refine xi_cmf (pc' := 17) kc_171_14 rfl rfl ?_
  refine xi_aload_n (pc' := 18) (x := 80) kc_171_17 rfl rfl ?_
  refine xi_getfield (pc' := 21) (v := .ref 83) kc_171_18 rfl rfl rfl e80 rfl ?_
  refine xi_iload_n (pc' := 22) (x := 17) kc_171_21 rfl rfl ?_
  refine xi_iaload (pc' := 23) (v := 2) kc_171_22 rfl e83 (by decide) rfl (xi_in (n := 24) (by decide) (by decide)) rfl ?_
  refine xi_iconst (pc' := 24) (v := 1) kc_171_23 rfl rfl ?_
  refine xi_cmt (pc' := 49) kc_171_24 rfl rfl ?_
  refine xi_iinc (pc' := 52) (x := 2) (v := 3) (lv' := [(3, .int 3), (2, .int 17), (1, .int 0), (0, .ref 80)]) kc_171_49 rfl rfl rfl rfl (xm_lt ml_171 rfl) ?_
  refine xi_goto (pc' := 12) kc_171_52 rfl ?_
  refine xi_iload_n (pc' := 13) (x := 3) kc_171_12 rfl rfl ?_
  refine xi_iload_n (pc' := 14) (x := 17) kc_171_13 rfl rfl ?_
  refine xi_cmf (pc' := 17) kc_171_14 rfl rfl ?_
  refine xi_aload_n (pc' := 18) (x := 80) kc_171_17 rfl rfl ?_
  refine xi_getfield (pc' := 21) (v := .ref 83) kc_171_18 rfl rfl rfl e80 rfl ?_
  refine xi_iload_n (pc' := 22) (x := 17) kc_171_21 rfl rfl ?_
  refine xi_iaload (pc' := 23) (v := 2) kc_171_22 rfl e83 (by decide) rfl (xi_in (n := 24) (by decide) (by decide)) rfl ?_
  refine xi_iconst (pc' := 24) (v := 1) kc_171_23 rfl rfl ?_
  refine xi_cmt (pc' := 49) kc_171_24 rfl rfl ?_
  refine xi_iinc (pc' := 52) (x := 3) (v := 4) (lv' := [(3, .int 4), (2, .int 17), (1, .int 0), (0, .ref 80)]) kc_171_49 rfl rfl rfl rfl (xm_lt ml_171 rfl) ?_
  refine xi_goto (pc' := 12) kc_171_52 rfl ?_
  refine xi_iload_n (pc' := 13) (x := 4) kc_171_12 rfl rfl ?_
  refine xi_iload_n (pc' := 14) (x := 17) kc_171_13 rfl rfl ?_
  refine xi_cmf (pc' := 17) kc_171_14 rfl rfl ?_
  refine xi_aload_n (pc' := 18) (x := 80) kc_171_17 rfl rfl ?_
  refine xi_getfield (pc' := 21) (v := .ref 83) kc_171_18 rfl rfl rfl e80 rfl ?_
  refine xi_iload_n (pc' := 22) (x := 17) kc_171_21 rfl rfl ?_
  refine xi_iaload (pc' := 23) (v := 2) kc_171_22 rfl e83 (by decide) rfl (xi_in (n := 24) (by decide) (by decide)) rfl ?_
  refine xi_iconst (pc' := 24) (v := 1) kc_171_23 rfl rfl ?_
  refine xi_cmt (pc' := 49) kc_171_24 rfl rfl ?_
  refine xi_iinc (pc' := 52) (x := 4) (v := 5) (lv' := [(3, .int 5), (2, .int 17), (1, .int 0), (0, .ref 80)]) kc_171_49 rfl rfl rfl rfl (xm_lt ml_171 rfl) ?_
  refine xi_goto (pc' := 12) kc_171_52 rfl ?_
  refine xi_iload_n (pc' := 13) (x := 5) kc_171_12 rfl rfl ?_
  refine xi_iload_n (pc' := 14) (x := 17) kc_171_13 rfl rfl ?_
  refine xi_cmf (pc' := 17) kc_171_14 rfl rfl ?_
  refine xi_aload_n (pc' := 18) (x := 80) kc_171_17 rfl rfl ?_
  refine xi_getfield (pc' := 21) (v := .ref 83) kc_171_18 rfl rfl rfl e80 rfl ?_
  refine xi_iload_n (pc' := 22) (x := 17) kc_171_21 rfl rfl ?_
  refine xi_iaload (pc' := 23) (v := 2) kc_171_22 rfl e83 (by decide) rfl (xi_in (n := 24) (by decide) (by decide)) rfl ?_
  refine xi_iconst (pc' := 24) (v := 1) kc_171_23 rfl rfl ?_
  refine xi_cmt (pc' := 49) kc_171_24 rfl rfl ?_
  refine xi_iinc (pc' := 52) (x := 5) (v := 6) (lv' := [(3, .int 6), (2, .int 17), (1, .int 0), (0, .ref 80)]) kc_171_49 rfl rfl rfl rfl (xm_lt ml_171 rfl) ?_
  refine xi_goto (pc' := 12) kc_171_52 rfl ?_
  refine xi_iload_n (pc' := 13) (x := 6) kc_171_12 rfl rfl ?_
  refine xi_iload_n (pc' := 14) (x := 17) kc_171_13 rfl rfl ?_
  refine xi_cmf (pc' := 17) kc_171_14 rfl rfl ?_
  refine xi_aload_n (pc' := 18) (x := 80) kc_171_17 rfl rfl ?_
  refine xi_getfield (pc' := 21) (v := .ref 83) kc_171_18 rfl rfl rfl e80 rfl ?_
  refine xi_iload_n (pc' := 22) (x := 17) kc_171_21 rfl rfl ?_
  refine xi_iaload (pc' := 23) (v := 2) kc_171_22 rfl e83 (by decide) rfl (xi_in (n := 24) (by decide) (by decide)) rfl ?_
  refine xi_iconst (pc' := 24) (v := 1) kc_171_23 rfl rfl ?_
  refine xi_cmt (pc' := 49) kc_171_24 rfl rfl ?_
  refine xi_iinc (pc' := 52) (x := 6) (v := 7) (lv' := [(3, .int 7), (2, .int 17), (1, .int 0), (0, .ref 80)]) kc_171_49 rfl rfl rfl rfl (xm_lt ml_171 rfl) ?_
  refine xi_goto (pc' := 12) kc_171_52 rfl ?_
  refine xi_iload_n (pc' := 13) (x := 7) kc_171_12 rfl rfl ?_
  refine xi_iload_n (pc' := 14) (x := 17) kc_171_13 rfl rfl ?_
  refine xi_cmf (pc' := 17) kc_171_14 rfl rfl ?_
  refine xi_aload_n (pc' := 18) (x := 80) kc_171_17 rfl rfl ?_
  refine xi_getfield (pc' := 21) (v := .ref 83) kc_171_18 rfl rfl rfl e80 rfl ?_
  refine xi_iload_n (pc' := 22) (x := 17) kc_171_21 rfl rfl ?_
  refine xi_iaload (pc' := 23) (v := 2) kc_171_22 rfl e83 (by decide) rfl (xi_in (n := 24) (by decide) (by decide)) rfl ?_
  refine xi_iconst (pc' := 24) (v := 1) kc_171_23 rfl rfl ?_
  refine xi_cmt (pc' := 49) kc_171_24 rfl rfl ?_
  refine xi_iinc (pc' := 52) (x := 7) (v := 8) (lv' := [(3, .int 8), (2, .int 17), (1, .int 0), (0, .ref 80)]) kc_171_49 rfl rfl rfl rfl (xm_lt ml_171 rfl) ?_
  refine xi_goto (pc' := 12) kc_171_52 rfl ?_
  refine xi_iload_n (pc' := 13) (x := 8) kc_171_12 rfl rfl ?_
  refine xi_iload_n (pc' := 14) (x := 17) kc_171_13 rfl rfl ?_
  refine xi_cmf (pc' := 17) kc_171_14 rfl rfl ?_
  refine xi_aload_n (pc' := 18) (x := 80) kc_171_17 rfl rfl ?_
  refine xi_getfield (pc' := 21) (v := .ref 83) kc_171_18 rfl rfl rfl e80 rfl ?_
  refine xi_iload_n (pc' := 22) (x := 17) kc_171_21 rfl rfl ?_
  refine xi_iaload (pc' := 23) (v := 2) kc_171_22 rfl e83 (by decide) rfl (xi_in (n := 24) (by decide) (by decide)) rfl ?_
  refine xi_iconst (pc' := 24) (v := 1) kc_171_23 rfl rfl ?_
  refine xi_cmt (pc' := 49) kc_171_24 rfl rfl ?_
  refine xi_iinc (pc' := 52) (x := 8) (v := 9) (lv' := [(3, .int 9), (2, .int 17), (1, .int 0), (0, .ref 80)]) kc_171_49 rfl rfl rfl rfl (xm_lt ml_171 rfl) ?_
  refine xi_goto (pc' := 12) kc_171_52 rfl ?_
  refine xi_iload_n (pc' := 13) (x := 9) kc_171_12 rfl rfl ?_
  refine xi_iload_n (pc' := 14) (x := 17) kc_171_13 rfl rfl ?_
  refine xi_cmf (pc' := 17) kc_171_14 rfl rfl ?_
  refine xi_aload_n (pc' := 18) (x := 80) kc_171_17 rfl rfl ?_
  refine xi_getfield (pc' := 21) (v := .ref 83) kc_171_18 rfl rfl rfl e80 rfl ?_
  refine xi_iload_n (pc' := 22) (x := 17) kc_171_21 rfl rfl ?_
  refine xi_iaload (pc' := 23) (v := 2) kc_171_22 rfl e83 (by decide) rfl (xi_in (n := 24) (by decide) (by decide)) rfl ?_
  refine xi_iconst (pc' := 24) (v := 1) kc_171_23 rfl rfl ?_
  refine xi_cmt (pc' := 49) kc_171_24 rfl rfl ?_
  refine xi_iinc (pc' := 52) (x := 9) (v := 10) (lv' := [(3, .int 10), (2, .int 17), (1, .int 0), (0, .ref 80)]) kc_171_49 rfl rfl rfl rfl (xm_lt ml_171 rfl) ?_
  refine xi_goto (pc' := 12) kc_171_52 rfl ?_
  refine xi_iload_n (pc' := 13) (x := 10) kc_171_12 rfl rfl ?_
  refine xi_iload_n (pc' := 14) (x := 17) kc_171_13 rfl rfl ?_
  refine xi_cmf (pc' := 17) kc_171_14 rfl rfl ?_
  refine xi_aload_n (pc' := 18) (x := 80) kc_171_17 rfl rfl ?_
  refine xi_getfield (pc' := 21) (v := .ref 83) kc_171_18 rfl rfl rfl e80 rfl ?_
  refine xi_iload_n (pc' := 22) (x := 17) kc_171_21 rfl rfl ?_
  refine xi_iaload (pc' := 23) (v := 2) kc_171_22 rfl e83 (by decide) rfl (xi_in (n := 24) (by decide) (by decide)) rfl ?_
  refine xi_iconst (pc' := 24) (v := 1) kc_171_23 rfl rfl ?_
  refine xi_cmt (pc' := 49) kc_171_24 rfl rfl ?_
  refine xi_iinc (pc' := 52) (x := 10) (v := 11) (lv' := [(3, .int 11), (2, .int 17), (1, .int 0), (0, .ref 80)]) kc_171_49 rfl rfl rfl rfl (xm_lt ml_171 rfl) ?_
  refine xi_goto (pc' := 12) kc_171_52 rfl ?_
  refine xi_iload_n (pc' := 13) (x := 11) kc_171_12 rfl rfl ?_
  refine xi_iload_n (pc' := 14) (x := 17) kc_171_13 rfl rfl ?_
  refine xi_cmf (pc' := 17) kc_171_14 rfl rfl ?_
  refine xi_aload_n (pc' := 18) (x := 80) kc_171_17 rfl rfl ?_
  refine xi_getfield (pc' := 21) (v := .ref 83) kc_171_18 rfl rfl rfl e80 rfl ?_
  refine xi_iload_n (pc' := 22) (x := 17) kc_171_21 rfl rfl ?_
  refine xi_iaload (pc' := 23) (v := 2) kc_171_22 rfl e83 (by decide) rfl (xi_in (n := 24) (by decide) (by decide)) rfl ?_
  refine xi_iconst (pc' := 24) (v := 1) kc_171_23 rfl rfl ?_
  refine xi_cmt (pc' := 49) kc_171_24 rfl rfl ?_
  refine xi_iinc (pc' := 52) (x := 11) (v := 12) (lv' := [(3, .int 12), (2, .int 17), (1, .int 0), (0, .ref 80)]) kc_171_49 rfl rfl rfl rfl (xm_lt ml_171 rfl) ?_
  refine xi_goto (pc' := 12) kc_171_52 rfl ?_
  refine xi_iload_n (pc' := 13) (x := 12) kc_171_12 rfl rfl ?_
  refine xi_iload_n (pc' := 14) (x := 17) kc_171_13 rfl rfl ?_
  refine xi_cmf (pc' := 17) kc_171_14 rfl rfl ?_
  refine xi_aload_n (pc' := 18) (x := 80) kc_171_17 rfl rfl ?_
  refine xi_getfield (pc' := 21) (v := .ref 83) kc_171_18 rfl rfl rfl e80 rfl ?_
  refine xi_iload_n (pc' := 22) (x := 17) kc_171_21 rfl rfl ?_
  refine xi_iaload (pc' := 23) (v := 2) kc_171_22 rfl e83 (by decide) rfl (xi_in (n := 24) (by decide) (by decide)) rfl ?_
  refine xi_iconst (pc' := 24) (v := 1) kc_171_23 rfl rfl ?_
  refine xi_cmt (pc' := 49) kc_171_24 rfl rfl ?_
  refine xi_iinc (pc' := 52) (x := 12) (v := 13) (lv' := [(3, .int 13), (2, .int 17), (1, .int 0), (0, .ref 80)]) kc_171_49 rfl rfl rfl rfl (xm_lt ml_171 rfl) ?_
  refine xi_goto (pc' := 12) kc_171_52 rfl ?_
  refine xi_iload_n (pc' := 13) (x := 13) kc_171_12 rfl rfl ?_
  refine xi_iload_n (pc' := 14) (x := 17) kc_171_13 rfl rfl ?_
  refine xi_cmf (pc' := 17) kc_171_14 rfl rfl ?_
  refine xi_aload_n (pc' := 18) (x := 80) kc_171_17 rfl rfl ?_
  refine xi_getfield (pc' := 21) (v := .ref 83) kc_171_18 rfl rfl rfl e80 rfl ?_
  refine xi_iload_n (pc' := 22) (x := 17) kc_171_21 rfl rfl ?_
  refine xi_iaload (pc' := 23) (v := 2) kc_171_22 rfl e83 (by decide) rfl (xi_in (n := 24) (by decide) (by decide)) rfl ?_
  refine xi_iconst (pc' := 24) (v := 1) kc_171_23 rfl rfl ?_
  refine xi_cmt (pc' := 49) kc_171_24 rfl rfl ?_
  refine xi_iinc (pc' := 52) (x := 13) (v := 14) (lv' := [(3, .int 14), (2, .int 17), (1, .int 0), (0, .ref 80)]) kc_171_49 rfl rfl rfl rfl (xm_lt ml_171 rfl) ?_
  refine xi_goto (pc' := 12) kc_171_52 rfl ?_
  refine xi_iload_n (pc' := 13) (x := 14) kc_171_12 rfl rfl ?_
  refine xi_iload_n (pc' := 14) (x := 17) kc_171_13 rfl rfl ?_
  refine xi_cmf (pc' := 17) kc_171_14 rfl rfl ?_
  refine xi_aload_n (pc' := 18) (x := 80) kc_171_17 rfl rfl ?_
  refine xi_getfield (pc' := 21) (v := .ref 83) kc_171_18 rfl rfl rfl e80 rfl ?_
  refine xi_iload_n (pc' := 22) (x := 17) kc_171_21 rfl rfl ?_
  refine xi_iaload (pc' := 23) (v := 2) kc_171_22 rfl e83 (by decide) rfl (xi_in (n := 24) (by decide) (by decide)) rfl ?_
  refine xi_iconst (pc' := 24) (v := 1) kc_171_23 rfl rfl ?_
  refine xi_cmt (pc' := 49) kc_171_24 rfl rfl ?_
  refine xi_iinc (pc' := 52) (x := 14) (v := 15) (lv' := [(3, .int 15), (2, .int 17), (1, .int 0), (0, .ref 80)]) kc_171_49 rfl rfl rfl rfl (xm_lt ml_171 rfl) ?_
  refine xi_goto (pc' := 12) kc_171_52 rfl ?_
  refine xi_iload_n (pc' := 13) (x := 15) kc_171_12 rfl rfl ?_
  refine xi_iload_n (pc' := 14) (x := 17) kc_171_13 rfl rfl ?_
  refine xi_cmf (pc' := 17) kc_171_14 rfl rfl ?_
  refine xi_aload_n (pc' := 18) (x := 80) kc_171_17 rfl rfl ?_
  refine xi_getfield (pc' := 21) (v := .ref 83) kc_171_18 rfl rfl rfl e80 rfl ?_
  refine xi_iload_n (pc' := 22) (x := 17) kc_171_21 rfl rfl ?_
  refine xi_iaload (pc' := 23) (v := 2) kc_171_22 rfl e83 (by decide) rfl (xi_in (n := 24) (by decide) (by decide)) rfl ?_
  refine xi_iconst (pc' := 24) (v := 1) kc_171_23 rfl rfl ?_
  refine xi_cmt (pc' := 49) kc_171_24 rfl rfl ?_
  refine xi_iinc (pc' := 52) (x := 15) (v := 16) (lv' := [(3, .int 16), (2, .int 17), (1, .int 0), (0, .ref 80)]) kc_171_49 rfl rfl rfl rfl (xm_lt ml_171 rfl) ?_
  refine xi_goto (pc' := 12) kc_171_52 rfl ?_
  refine xi_iload_n (pc' := 13) (x := 16) kc_171_12 rfl rfl ?_
  refine xi_iload_n (pc' := 14) (x := 17) kc_171_13 rfl rfl ?_
  refine xi_cmf (pc' := 17) kc_171_14 rfl rfl ?_
  refine xi_aload_n (pc' := 18) (x := 80) kc_171_17 rfl rfl ?_
  refine xi_getfield (pc' := 21) (v := .ref 83) kc_171_18 rfl rfl rfl e80 rfl ?_
  refine xi_iload_n (pc' := 22) (x := 17) kc_171_21 rfl rfl ?_
  refine xi_iaload (pc' := 23) (v := 2) kc_171_22 rfl e83 (by decide) rfl (xi_in (n := 24) (by decide) (by decide)) rfl ?_
  refine xi_iconst (pc' := 24) (v := 1) kc_171_23 rfl rfl ?_
  refine xi_cmt (pc' := 49) kc_171_24 rfl rfl ?_
  refine xi_iinc (pc' := 52) (x := 16) (v := 17) (lv' := [(3, .int 17), (2, .int 17), (1, .int 0), (0, .ref 80)]) kc_171_49 rfl rfl rfl rfl (xm_lt ml_171 rfl) ?_
  refine xi_goto (pc' := 12) kc_171_52 rfl ?_
  refine xi_iload_n (pc' := 13) (x := 17) kc_171_12 rfl rfl ?_
  refine xi_iload_n (pc' := 14) (x := 17) kc_171_13 rfl rfl ?_
  refine xi_cmt (pc' := 55) kc_171_14 rfl rfl ?_
  refine xi_iinc (pc' := 58) (x := 17) (v := 18) (lv' := [(2, .int 18), (3, .int 17), (1, .int 0), (0, .ref 80)]) kc_171_55 rfl rfl rfl rfl (xm_lt ml_171 rfl) ?_
  refine xi_goto (pc' := 4) kc_171_58 rfl ?_
  refine xi_iload_n (pc' := 5) (x := 18) kc_171_4 rfl rfl ?_
  refine xi_bipush (pc' := 7) (v := 24) kc_171_5 rfl rfl ?_
  refine xi_cmf (pc' := 10) kc_171_7 rfl rfl ?_
  refine xi_iconst (pc' := 11) (v := 0) kc_171_10 rfl rfl ?_
  refine xi_istore_n (pc' := 12) (lv' := [(3, .int 0), (2, .int 18), (1, .int 0), (0, .ref 80)]) kc_171_11 rfl rfl (xm_lt ml_171 rfl) ?_
  refine xi_iload_n (pc' := 13) (x := 0) kc_171_12 rfl rfl ?_
  refine xi_iload_n (pc' := 14) (x := 18) kc_171_13 rfl rfl ?_
  refine xi_cmf (pc' := 17) kc_171_14 rfl rfl ?_
  refine xi_aload_n (pc' := 18) (x := 80) kc_171_17 rfl rfl ?_
  refine xi_getfield (pc' := 21) (v := .ref 83) kc_171_18 rfl rfl rfl e80 rfl ?_
  refine xi_iload_n (pc' := 22) (x := 18) kc_171_21 rfl rfl ?_
  refine xi_iaload (pc' := 23) (v := 2) kc_171_22 rfl e83 (by decide) rfl (xi_in (n := 24) (by decide) (by decide)) rfl ?_
  refine xi_iconst (pc' := 24) (v := 1) kc_171_23 rfl rfl ?_
  refine xi_cmt (pc' := 49) kc_171_24 rfl rfl ?_
  refine xi_iinc (pc' := 52) (x := 0) (v := 1) (lv' := [(3, .int 1), (2, .int 18), (1, .int 0), (0, .ref 80)]) kc_171_49 rfl rfl rfl rfl (xm_lt ml_171 rfl) ?_
  refine xi_goto (pc' := 12) kc_171_52 rfl ?_
  refine xi_iload_n (pc' := 13) (x := 1) kc_171_12 rfl rfl ?_
  refine xi_iload_n (pc' := 14) (x := 18) kc_171_13 rfl rfl ?_
  refine xi_cmf (pc' := 17) kc_171_14 rfl rfl ?_
  refine xi_aload_n (pc' := 18) (x := 80) kc_171_17 rfl rfl ?_
  refine xi_getfield (pc' := 21) (v := .ref 83) kc_171_18 rfl rfl rfl e80 rfl ?_
  refine xi_iload_n (pc' := 22) (x := 18) kc_171_21 rfl rfl ?_
  refine xi_iaload (pc' := 23) (v := 2) kc_171_22 rfl e83 (by decide) rfl (xi_in (n := 24) (by decide) (by decide)) rfl ?_
  refine xi_iconst (pc' := 24) (v := 1) kc_171_23 rfl rfl ?_
  refine xi_cmt (pc' := 49) kc_171_24 rfl rfl ?_
  refine xi_iinc (pc' := 52) (x := 1) (v := 2) (lv' := [(3, .int 2), (2, .int 18), (1, .int 0), (0, .ref 80)]) kc_171_49 rfl rfl rfl rfl (xm_lt ml_171 rfl) ?_
  refine xi_goto (pc' := 12) kc_171_52 rfl ?_
  refine xi_iload_n (pc' := 13) (x := 2) kc_171_12 rfl rfl ?_
  refine xi_iload_n (pc' := 14) (x := 18) kc_171_13 rfl rfl ?_
  refine xi_cmf (pc' := 17) kc_171_14 rfl rfl ?_
  refine xi_aload_n (pc' := 18) (x := 80) kc_171_17 rfl rfl ?_
  refine xi_getfield (pc' := 21) (v := .ref 83) kc_171_18 rfl rfl rfl e80 rfl ?_
  refine xi_iload_n (pc' := 22) (x := 18) kc_171_21 rfl rfl ?_
  refine xi_iaload (pc' := 23) (v := 2) kc_171_22 rfl e83 (by decide) rfl (xi_in (n := 24) (by decide) (by decide)) rfl ?_
  refine xi_iconst (pc' := 24) (v := 1) kc_171_23 rfl rfl ?_
  refine xi_cmt (pc' := 49) kc_171_24 rfl rfl ?_
  refine xi_iinc (pc' := 52) (x := 2) (v := 3) (lv' := [(3, .int 3), (2, .int 18), (1, .int 0), (0, .ref 80)]) kc_171_49 rfl rfl rfl rfl (xm_lt ml_171 rfl) ?_
  refine xi_goto (pc' := 12) kc_171_52 rfl ?_
  refine xi_iload_n (pc' := 13) (x := 3) kc_171_12 rfl rfl ?_
  refine xi_iload_n (pc' := 14) (x := 18) kc_171_13 rfl rfl ?_
  refine xi_cmf (pc' := 17) kc_171_14 rfl rfl ?_
  refine xi_aload_n (pc' := 18) (x := 80) kc_171_17 rfl rfl ?_
  refine xi_getfield (pc' := 21) (v := .ref 83) kc_171_18 rfl rfl rfl e80 rfl ?_
  refine xi_iload_n (pc' := 22) (x := 18) kc_171_21 rfl rfl ?_
  refine xi_iaload (pc' := 23) (v := 2) kc_171_22 rfl e83 (by decide) rfl (xi_in (n := 24) (by decide) (by decide)) rfl ?_
  refine xi_iconst (pc' := 24) (v := 1) kc_171_23 rfl rfl ?_
  refine xi_cmt (pc' := 49) kc_171_24 rfl rfl ?_
  refine xi_iinc (pc' := 52) (x := 3) (v := 4) (lv' := [(3, .int 4), (2, .int 18), (1, .int 0), (0, .ref 80)]) kc_171_49 rfl rfl rfl rfl (xm_lt ml_171 rfl) ?_
  refine xi_goto (pc' := 12) kc_171_52 rfl ?_
  refine xi_iload_n (pc' := 13) (x := 4) kc_171_12 rfl rfl ?_
  refine xi_iload_n (pc' := 14) (x := 18) kc_171_13 rfl rfl ?_
  refine xi_cmf (pc' := 17) kc_171_14 rfl rfl ?_
  refine xi_aload_n (pc' := 18) (x := 80) kc_171_17 rfl rfl ?_
  refine xi_getfield (pc' := 21) (v := .ref 83) kc_171_18 rfl rfl rfl e80 rfl ?_
  refine xi_iload_n (pc' := 22) (x := 18) kc_171_21 rfl rfl ?_
  refine xi_iaload (pc' := 23) (v := 2) kc_171_22 rfl e83 (by decide) rfl (xi_in (n := 24) (by decide) (by decide)) rfl ?_
  refine xi_iconst (pc' := 24) (v := 1) kc_171_23 rfl rfl ?_
  refine xi_cmt (pc' := 49) kc_171_24 rfl rfl ?_
  refine xi_iinc (pc' := 52) (x := 4) (v := 5) (lv' := [(3, .int 5), (2, .int 18), (1, .int 0), (0, .ref 80)]) kc_171_49 rfl rfl rfl rfl (xm_lt ml_171 rfl) ?_
  refine xi_goto (pc' := 12) kc_171_52 rfl ?_
  refine xi_iload_n (pc' := 13) (x := 5) kc_171_12 rfl rfl ?_
  refine xi_iload_n (pc' := 14) (x := 18) kc_171_13 rfl rfl ?_
  refine xi_cmf (pc' := 17) kc_171_14 rfl rfl ?_
  refine xi_aload_n (pc' := 18) (x := 80) kc_171_17 rfl rfl ?_
  refine xi_getfield (pc' := 21) (v := .ref 83) kc_171_18 rfl rfl rfl e80 rfl ?_
  refine xi_iload_n (pc' := 22) (x := 18) kc_171_21 rfl rfl ?_
  refine xi_iaload (pc' := 23) (v := 2) kc_171_22 rfl e83 (by decide) rfl (xi_in (n := 24) (by decide) (by decide)) rfl ?_
  refine xi_iconst (pc' := 24) (v := 1) kc_171_23 rfl rfl ?_
  refine xi_cmt (pc' := 49) kc_171_24 rfl rfl ?_
  refine xi_iinc (pc' := 52) (x := 5) (v := 6) (lv' := [(3, .int 6), (2, .int 18), (1, .int 0), (0, .ref 80)]) kc_171_49 rfl rfl rfl rfl (xm_lt ml_171 rfl) ?_
  refine xi_goto (pc' := 12) kc_171_52 rfl ?_
  refine xi_iload_n (pc' := 13) (x := 6) kc_171_12 rfl rfl ?_
  refine xi_iload_n (pc' := 14) (x := 18) kc_171_13 rfl rfl ?_
  refine xi_cmf (pc' := 17) kc_171_14 rfl rfl ?_
  refine xi_aload_n (pc' := 18) (x := 80) kc_171_17 rfl rfl ?_
  refine xi_getfield (pc' := 21) (v := .ref 83) kc_171_18 rfl rfl rfl e80 rfl ?_
  refine xi_iload_n (pc' := 22) (x := 18) kc_171_21 rfl rfl ?_
  refine xi_iaload (pc' := 23) (v := 2) kc_171_22 rfl e83 (by decide) rfl (xi_in (n := 24) (by decide) (by decide)) rfl ?_
  refine xi_iconst (pc' := 24) (v := 1) kc_171_23 rfl rfl ?_
  refine xi_cmt (pc' := 49) kc_171_24 rfl rfl ?_
  refine xi_iinc (pc' := 52) (x := 6) (v := 7) (lv' := [(3, .int 7), (2, .int 18), (1, .int 0), (0, .ref 80)]) kc_171_49 rfl rfl rfl rfl (xm_lt ml_171 rfl) ?_
  refine xi_goto (pc' := 12) kc_171_52 rfl ?_
  refine xi_iload_n (pc' := 13) (x := 7) kc_171_12 rfl rfl ?_
  refine xi_iload_n (pc' := 14) (x := 18) kc_171_13 rfl rfl ?_
  refine xi_cmf (pc' := 17) kc_171_14 rfl rfl ?_
  refine xi_aload_n (pc' := 18) (x := 80) kc_171_17 rfl rfl ?_
  refine xi_getfield (pc' := 21) (v := .ref 83) kc_171_18 rfl rfl rfl e80 rfl ?_
  refine xi_iload_n (pc' := 22) (x := 18) kc_171_21 rfl rfl ?_
  refine xi_iaload (pc' := 23) (v := 2) kc_171_22 rfl e83 (by decide) rfl (xi_in (n := 24) (by decide) (by decide)) rfl ?_
  refine xi_iconst (pc' := 24) (v := 1) kc_171_23 rfl rfl ?_
  refine xi_cmt (pc' := 49) kc_171_24 rfl rfl ?_
  refine xi_iinc (pc' := 52) (x := 7) (v := 8) (lv' := [(3, .int 8), (2, .int 18), (1, .int 0), (0, .ref 80)]) kc_171_49 rfl rfl rfl rfl (xm_lt ml_171 rfl) ?_
  refine xi_goto (pc' := 12) kc_171_52 rfl ?_
  refine xi_iload_n (pc' := 13) (x := 8) kc_171_12 rfl rfl ?_
  refine xi_iload_n (pc' := 14) (x := 18) kc_171_13 rfl rfl ?_
  refine xi_cmf (pc' := 17) kc_171_14 rfl rfl ?_
  refine xi_aload_n (pc' := 18) (x := 80) kc_171_17 rfl rfl ?_
  refine xi_getfield (pc' := 21) (v := .ref 83) kc_171_18 rfl rfl rfl e80 rfl ?_
  refine xi_iload_n (pc' := 22) (x := 18) kc_171_21 rfl rfl ?_
  refine xi_iaload (pc' := 23) (v := 2) kc_171_22 rfl e83 (by decide) rfl (xi_in (n := 24) (by decide) (by decide)) rfl ?_
  refine xi_iconst (pc' := 24) (v := 1) kc_171_23 rfl rfl ?_
  refine xi_cmt (pc' := 49) kc_171_24 rfl rfl ?_
  refine xi_iinc (pc' := 52) (x := 8) (v := 9) (lv' := [(3, .int 9), (2, .int 18), (1, .int 0), (0, .ref 80)]) kc_171_49 rfl rfl rfl rfl (xm_lt ml_171 rfl) ?_
  refine xi_goto (pc' := 12) kc_171_52 rfl ?_
  refine xi_iload_n (pc' := 13) (x := 9) kc_171_12 rfl rfl ?_
  refine xi_iload_n (pc' := 14) (x := 18) kc_171_13 rfl rfl ?_
  refine xi_cmf (pc' := 17) kc_171_14 rfl rfl ?_
  refine xi_aload_n (pc' := 18) (x := 80) kc_171_17 rfl rfl ?_
  refine xi_getfield (pc' := 21) (v := .ref 83) kc_171_18 rfl rfl rfl e80 rfl ?_
  refine xi_iload_n (pc' := 22) (x := 18) kc_171_21 rfl rfl ?_
  refine xi_iaload (pc' := 23) (v := 2) kc_171_22 rfl e83 (by decide) rfl (xi_in (n := 24) (by decide) (by decide)) rfl ?_
  refine xi_iconst (pc' := 24) (v := 1) kc_171_23 rfl rfl ?_
  refine xi_cmt (pc' := 49) kc_171_24 rfl rfl ?_
  refine xi_iinc (pc' := 52) (x := 9) (v := 10) (lv' := [(3, .int 10), (2, .int 18), (1, .int 0), (0, .ref 80)]) kc_171_49 rfl rfl rfl rfl (xm_lt ml_171 rfl) ?_
  refine xi_goto (pc' := 12) kc_171_52 rfl ?_
  refine xi_iload_n (pc' := 13) (x := 10) kc_171_12 rfl rfl ?_
  refine xi_iload_n (pc' := 14) (x := 18) kc_171_13 rfl rfl ?_
  refine xi_cmf (pc' := 17) kc_171_14 rfl rfl ?_
  refine xi_aload_n (pc' := 18) (x := 80) kc_171_17 rfl rfl ?_
  refine xi_getfield (pc' := 21) (v := .ref 83) kc_171_18 rfl rfl rfl e80 rfl ?_
  refine xi_iload_n (pc' := 22) (x := 18) kc_171_21 rfl rfl ?_
  refine xi_iaload (pc' := 23) (v := 2) kc_171_22 rfl e83 (by decide) rfl (xi_in (n := 24) (by decide) (by decide)) rfl ?_
  refine xi_iconst (pc' := 24) (v := 1) kc_171_23 rfl rfl ?_
  refine xi_cmt (pc' := 49) kc_171_24 rfl rfl ?_
  refine xi_iinc (pc' := 52) (x := 10) (v := 11) (lv' := [(3, .int 11), (2, .int 18), (1, .int 0), (0, .ref 80)]) kc_171_49 rfl rfl rfl rfl (xm_lt ml_171 rfl) ?_
  refine xi_goto (pc' := 12) kc_171_52 rfl ?_
  refine xi_iload_n (pc' := 13) (x := 11) kc_171_12 rfl rfl ?_
  refine xi_iload_n (pc' := 14) (x := 18) kc_171_13 rfl rfl ?_
  refine xi_cmf (pc' := 17) kc_171_14 rfl rfl ?_
  refine xi_aload_n (pc' := 18) (x := 80) kc_171_17 rfl rfl ?_
  refine xi_getfield (pc' := 21) (v := .ref 83) kc_171_18 rfl rfl rfl e80 rfl ?_
  refine xi_iload_n (pc' := 22) (x := 18) kc_171_21 rfl rfl ?_
  refine xi_iaload (pc' := 23) (v := 2) kc_171_22 rfl e83 (by decide) rfl (xi_in (n := 24) (by decide) (by decide)) rfl ?_
  refine xi_iconst (pc' := 24) (v := 1) kc_171_23 rfl rfl ?_
  refine xi_cmt (pc' := 49) kc_171_24 rfl rfl ?_
  refine xi_iinc (pc' := 52) (x := 11) (v := 12) (lv' := [(3, .int 12), (2, .int 18), (1, .int 0), (0, .ref 80)]) kc_171_49 rfl rfl rfl rfl (xm_lt ml_171 rfl) ?_
  refine xi_goto (pc' := 12) kc_171_52 rfl ?_
  refine xi_iload_n (pc' := 13) (x := 12) kc_171_12 rfl rfl ?_
  refine xi_iload_n (pc' := 14) (x := 18) kc_171_13 rfl rfl ?_
  refine xi_cmf (pc' := 17) kc_171_14 rfl rfl ?_
  refine xi_aload_n (pc' := 18) (x := 80) kc_171_17 rfl rfl ?_
  refine xi_getfield (pc' := 21) (v := .ref 83) kc_171_18 rfl rfl rfl e80 rfl ?_
  refine xi_iload_n (pc' := 22) (x := 18) kc_171_21 rfl rfl ?_
  refine xi_iaload (pc' := 23) (v := 2) kc_171_22 rfl e83 (by decide) rfl (xi_in (n := 24) (by decide) (by decide)) rfl ?_
  refine xi_iconst (pc' := 24) (v := 1) kc_171_23 rfl rfl ?_
  refine xi_cmt (pc' := 49) kc_171_24 rfl rfl ?_
  refine xi_iinc (pc' := 52) (x := 12) (v := 13) (lv' := [(3, .int 13), (2, .int 18), (1, .int 0), (0, .ref 80)]) kc_171_49 rfl rfl rfl rfl (xm_lt ml_171 rfl) ?_
  refine xi_goto (pc' := 12) kc_171_52 rfl ?_
  refine xi_iload_n (pc' := 13) (x := 13) kc_171_12 rfl rfl ?_
  refine xi_iload_n (pc' := 14) (x := 18) kc_171_13 rfl rfl ?_
  refine xi_cmf (pc' := 17) kc_171_14 rfl rfl ?_
  refine xi_aload_n (pc' := 18) (x := 80) kc_171_17 rfl rfl ?_
  refine xi_getfield (pc' := 21) (v := .ref 83) kc_171_18 rfl rfl rfl e80 rfl ?_
  refine xi_iload_n (pc' := 22) (x := 18) kc_171_21 rfl rfl ?_
  refine xi_iaload (pc' := 23) (v := 2) kc_171_22 rfl e83 (by decide) rfl (xi_in (n := 24) (by decide) (by decide)) rfl ?_
  refine xi_iconst (pc' := 24) (v := 1) kc_171_23 rfl rfl ?_
  refine xi_cmt (pc' := 49) kc_171_24 rfl rfl ?_
  refine xi_iinc (pc' := 52) (x := 13) (v := 14) (lv' := [(3, .int 14), (2, .int 18), (1, .int 0), (0, .ref 80)]) kc_171_49 rfl rfl rfl rfl (xm_lt ml_171 rfl) ?_
  refine xi_goto (pc' := 12) kc_171_52 rfl ?_
  refine xi_iload_n (pc' := 13) (x := 14) kc_171_12 rfl rfl ?_
  refine xi_iload_n (pc' := 14) (x := 18) kc_171_13 rfl rfl ?_
  refine xi_cmf (pc' := 17) kc_171_14 rfl rfl ?_
  refine xi_aload_n (pc' := 18) (x := 80) kc_171_17 rfl rfl ?_
  refine xi_getfield (pc' := 21) (v := .ref 83) kc_171_18 rfl rfl rfl e80 rfl ?_
  refine xi_iload_n (pc' := 22) (x := 18) kc_171_21 rfl rfl ?_
  refine xi_iaload (pc' := 23) (v := 2) kc_171_22 rfl e83 (by decide) rfl (xi_in (n := 24) (by decide) (by decide)) rfl ?_
  refine xi_iconst (pc' := 24) (v := 1) kc_171_23 rfl rfl ?_
  refine xi_cmt (pc' := 49) kc_171_24 rfl rfl ?_
  refine xi_iinc (pc' := 52) (x := 14) (v := 15) (lv' := [(3, .int 15), (2, .int 18), (1, .int 0), (0, .ref 80)]) kc_171_49 rfl rfl rfl rfl (xm_lt ml_171 rfl) ?_
  refine xi_goto (pc' := 12) kc_171_52 rfl ?_
  refine xi_iload_n (pc' := 13) (x := 15) kc_171_12 rfl rfl ?_
  refine xi_iload_n (pc' := 14) (x := 18) kc_171_13 rfl rfl ?_
  refine xi_cmf (pc' := 17) kc_171_14 rfl rfl ?_
  refine xi_aload_n (pc' := 18) (x := 80) kc_171_17 rfl rfl ?_
  refine xi_getfield (pc' := 21) (v := .ref 83) kc_171_18 rfl rfl rfl e80 rfl ?_
  refine xi_iload_n (pc' := 22) (x := 18) kc_171_21 rfl rfl ?_
  refine xi_iaload (pc' := 23) (v := 2) kc_171_22 rfl e83 (by decide) rfl (xi_in (n := 24) (by decide) (by decide)) rfl ?_
  refine xi_iconst (pc' := 24) (v := 1) kc_171_23 rfl rfl ?_
  refine xi_cmt (pc' := 49) kc_171_24 rfl rfl ?_
  refine xi_iinc (pc' := 52) (x := 15) (v := 16) (lv' := [(3, .int 16), (2, .int 18), (1, .int 0), (0, .ref 80)]) kc_171_49 rfl rfl rfl rfl (xm_lt ml_171 rfl) ?_
  refine xi_goto (pc' := 12) kc_171_52 rfl ?_
  refine xi_iload_n (pc' := 13) (x := 16) kc_171_12 rfl rfl ?_
  refine xi_iload_n (pc' := 14) (x := 18) kc_171_13 rfl rfl ?_
  refine xi_cmf (pc' := 17) kc_171_14 rfl rfl ?_
  refine xi_aload_n (pc' := 18) (x := 80) kc_171_17 rfl rfl ?_
  refine xi_getfield (pc' := 21) (v := .ref 83) kc_171_18 rfl rfl rfl e80 rfl ?_
  refine xi_iload_n (pc' := 22) (x := 18) kc_171_21 rfl rfl ?_
  refine xi_iaload (pc' := 23) (v := 2) kc_171_22 rfl e83 (by decide) rfl (xi_in (n := 24) (by decide) (by decide)) rfl ?_
  refine xi_iconst (pc' := 24) (v := 1) kc_171_23 rfl rfl ?_
  refine xi_cmt (pc' := 49) kc_171_24 rfl rfl ?_
  refine xi_iinc (pc' := 52) (x := 16) (v := 17) (lv' := [(3, .int 17), (2, .int 18), (1, .int 0), (0, .ref 80)]) kc_171_49 rfl rfl rfl rfl (xm_lt ml_171 rfl) ?_
  refine xi_goto (pc' := 12) kc_171_52 rfl ?_
  refine xi_iload_n (pc' := 13) (x := 17) kc_171_12 rfl rfl ?_
  refine xi_iload_n (pc' := 14) (x := 18) kc_171_13 rfl rfl ?_
  refine xi_cmf (pc' := 17) kc_171_14 rfl rfl ?_
  refine xi_aload_n (pc' := 18) (x := 80) kc_171_17 rfl rfl ?_
  refine xi_getfield (pc' := 21) (v := .ref 83) kc_171_18 rfl rfl rfl e80 rfl ?_
  refine xi_iload_n (pc' := 22) (x := 18) kc_171_21 rfl rfl ?_
  refine xi_iaload (pc' := 23) (v := 2) kc_171_22 rfl e83 (by decide) rfl (xi_in (n := 24) (by decide) (by decide)) rfl ?_
  refine xi_iconst (pc' := 24) (v := 1) kc_171_23 rfl rfl ?_
  refine xi_cmt (pc' := 49) kc_171_24 rfl rfl ?_
  refine xi_iinc (pc' := 52) (x := 17) (v := 18) (lv' := [(3, .int 18), (2, .int 18), (1, .int 0), (0, .ref 80)]) kc_171_49 rfl rfl rfl rfl (xm_lt ml_171 rfl) ?_
  refine xi_goto (pc' := 12) kc_171_52 rfl ?_
  refine xi_iload_n (pc' := 13) (x := 18) kc_171_12 rfl rfl ?_
  refine xi_iload_n (pc' := 14) (x := 18) kc_171_13 rfl rfl ?_
  refine xi_cmt (pc' := 55) kc_171_14 rfl rfl ?_
  refine xi_iinc (pc' := 58) (x := 18) (v := 19) (lv' := [(2, .int 19), (3, .int 18), (1, .int 0), (0, .ref 80)]) kc_171_55 rfl rfl rfl rfl (xm_lt ml_171 rfl) ?_
  refine xi_goto (pc' := 4) kc_171_58 rfl ?_
  refine xi_iload_n (pc' := 5) (x := 19) kc_171_4 rfl rfl ?_
  refine xi_bipush (pc' := 7) (v := 24) kc_171_5 rfl rfl ?_
  refine xi_cmf (pc' := 10) kc_171_7 rfl rfl ?_
  refine xi_iconst (pc' := 11) (v := 0) kc_171_10 rfl rfl ?_
  refine xi_istore_n (pc' := 12) (lv' := [(3, .int 0), (2, .int 19), (1, .int 0), (0, .ref 80)]) kc_171_11 rfl rfl (xm_lt ml_171 rfl) ?_
  refine xi_iload_n (pc' := 13) (x := 0) kc_171_12 rfl rfl ?_
  refine xi_iload_n (pc' := 14) (x := 19) kc_171_13 rfl rfl ?_
  refine xi_cmf (pc' := 17) kc_171_14 rfl rfl ?_
  refine xi_aload_n (pc' := 18) (x := 80) kc_171_17 rfl rfl ?_
  refine xi_getfield (pc' := 21) (v := .ref 83) kc_171_18 rfl rfl rfl e80 rfl ?_
  refine xi_iload_n (pc' := 22) (x := 19) kc_171_21 rfl rfl ?_
  refine xi_iaload (pc' := 23) (v := 2) kc_171_22 rfl e83 (by decide) rfl (xi_in (n := 24) (by decide) (by decide)) rfl ?_
  refine xi_iconst (pc' := 24) (v := 1) kc_171_23 rfl rfl ?_
  refine xi_cmt (pc' := 49) kc_171_24 rfl rfl ?_
  refine xi_iinc (pc' := 52) (x := 0) (v := 1) (lv' := [(3, .int 1), (2, .int 19), (1, .int 0), (0, .ref 80)]) kc_171_49 rfl rfl rfl rfl (xm_lt ml_171 rfl) ?_
  refine xi_goto (pc' := 12) kc_171_52 rfl ?_
  refine xi_iload_n (pc' := 13) (x := 1) kc_171_12 rfl rfl ?_
  refine xi_iload_n (pc' := 14) (x := 19) kc_171_13 rfl rfl ?_
  refine xi_cmf (pc' := 17) kc_171_14 rfl rfl ?_
  refine xi_aload_n (pc' := 18) (x := 80) kc_171_17 rfl rfl ?_
  refine xi_getfield (pc' := 21) (v := .ref 83) kc_171_18 rfl rfl rfl e80 rfl ?_
  refine xi_iload_n (pc' := 22) (x := 19) kc_171_21 rfl rfl ?_
  refine xi_iaload (pc' := 23) (v := 2) kc_171_22 rfl e83 (by decide) rfl (xi_in (n := 24) (by decide) (by decide)) rfl ?_
  refine xi_iconst (pc' := 24) (v := 1) kc_171_23 rfl rfl ?_
  refine xi_cmt (pc' := 49) kc_171_24 rfl rfl ?_
  refine xi_iinc (pc' := 52) (x := 1) (v := 2) (lv' := [(3, .int 2), (2, .int 19), (1, .int 0), (0, .ref 80)]) kc_171_49 rfl rfl rfl rfl (xm_lt ml_171 rfl) ?_
  refine xi_goto (pc' := 12) kc_171_52 rfl ?_
  refine xi_iload_n (pc' := 13) (x := 2) kc_171_12 rfl rfl ?_
  refine xi_iload_n (pc' := 14) (x := 19) kc_171_13 rfl rfl ?_
  refine xi_cmf (pc' := 17) kc_171_14 rfl rfl ?_
  refine xi_aload_n (pc' := 18) (x := 80) kc_171_17 rfl rfl ?_
  refine xi_getfield (pc' := 21) (v := .ref 83) kc_171_18 rfl rfl rfl e80 rfl ?_
  refine xi_iload_n (pc' := 22) (x := 19) kc_171_21 rfl rfl ?_
  refine xi_iaload (pc' := 23) (v := 2) kc_171_22 rfl e83 (by decide) rfl (xi_in (n := 24) (by decide) (by decide)) rfl ?_
  refine xi_iconst (pc' := 24) (v := 1) kc_171_23 rfl rfl ?_
  refine xi_cmt (pc' := 49) kc_171_24 rfl rfl ?_
  refine xi_iinc (pc' := 52) (x := 2) (v := 3) (lv' := [(3, .int 3), (2, .int 19), (1, .int 0), (0, .ref 80)]) kc_171_49 rfl rfl rfl rfl (xm_lt ml_171 rfl) ?_
  refine xi_goto (pc' := 12) kc_171_52 rfl ?_
  refine xi_iload_n (pc' := 13) (x := 3) kc_171_12 rfl rfl ?_
  refine xi_iload_n (pc' := 14) (x := 19) kc_171_13 rfl rfl ?_
  refine xi_cmf (pc' := 17) kc_171_14 rfl rfl ?_
  refine xi_aload_n (pc' := 18) (x := 80) kc_171_17 rfl rfl ?_
  refine xi_getfield (pc' := 21) (v := .ref 83) kc_171_18 rfl rfl rfl e80 rfl ?_
  refine xi_iload_n (pc' := 22) (x := 19) kc_171_21 rfl rfl ?_
  refine xi_iaload (pc' := 23) (v := 2) kc_171_22 rfl e83 (by decide) rfl (xi_in (n := 24) (by decide) (by decide)) rfl ?_
  refine xi_iconst (pc' := 24) (v := 1) kc_171_23 rfl rfl ?_
  refine xi_cmt (pc' := 49) kc_171_24 rfl rfl ?_
  refine xi_iinc (pc' := 52) (x := 3) (v := 4) (lv' := [(3, .int 4), (2, .int 19), (1, .int 0), (0, .ref 80)]) kc_171_49 rfl rfl rfl rfl (xm_lt ml_171 rfl) ?_
  refine xi_goto (pc' := 12) kc_171_52 rfl ?_
  refine xi_iload_n (pc' := 13) (x := 4) kc_171_12 rfl rfl ?_
  refine xi_iload_n (pc' := 14) (x := 19) kc_171_13 rfl rfl ?_
  refine xi_cmf (pc' := 17) kc_171_14 rfl rfl ?_
  refine xi_aload_n (pc' := 18) (x := 80) kc_171_17 rfl rfl ?_
  refine xi_getfield (pc' := 21) (v := .ref 83) kc_171_18 rfl rfl rfl e80 rfl ?_
  refine xi_iload_n (pc' := 22) (x := 19) kc_171_21 rfl rfl ?_
  refine xi_iaload (pc' := 23) (v := 2) kc_171_22 rfl e83 (by decide) rfl (xi_in (n := 24) (by decide) (by decide)) rfl ?_
  refine xi_iconst (pc' := 24) (v := 1) kc_171_23 rfl rfl ?_
  refine xi_cmt (pc' := 49) kc_171_24 rfl rfl ?_
  refine xi_iinc (pc' := 52) (x := 4) (v := 5) (lv' := [(3, .int 5), (2, .int 19), (1, .int 0), (0, .ref 80)]) kc_171_49 rfl rfl rfl rfl (xm_lt ml_171 rfl) ?_
  refine xi_goto (pc' := 12) kc_171_52 rfl ?_
  refine xi_iload_n (pc' := 13) (x := 5) kc_171_12 rfl rfl ?_
  refine xi_iload_n (pc' := 14) (x := 19) kc_171_13 rfl rfl ?_
  refine xi_cmf (pc' := 17) kc_171_14 rfl rfl ?_
  refine xi_aload_n (pc' := 18) (x := 80) kc_171_17 rfl rfl ?_
  refine xi_getfield (pc' := 21) (v := .ref 83) kc_171_18 rfl rfl rfl e80 rfl ?_
  refine xi_iload_n (pc' := 22) (x := 19) kc_171_21 rfl rfl ?_
  refine xi_iaload (pc' := 23) (v := 2) kc_171_22 rfl e83 (by decide) rfl (xi_in (n := 24) (by decide) (by decide)) rfl ?_
  refine xi_iconst (pc' := 24) (v := 1) kc_171_23 rfl rfl ?_
  refine xi_cmt (pc' := 49) kc_171_24 rfl rfl ?_
  refine xi_iinc (pc' := 52) (x := 5) (v := 6) (lv' := [(3, .int 6), (2, .int 19), (1, .int 0), (0, .ref 80)]) kc_171_49 rfl rfl rfl rfl (xm_lt ml_171 rfl) ?_
  refine xi_goto (pc' := 12) kc_171_52 rfl ?_
  refine xi_iload_n (pc' := 13) (x := 6) kc_171_12 rfl rfl ?_
  refine xi_iload_n (pc' := 14) (x := 19) kc_171_13 rfl rfl ?_
  refine xi_cmf (pc' := 17) kc_171_14 rfl rfl ?_
  refine xi_aload_n (pc' := 18) (x := 80) kc_171_17 rfl rfl ?_
  refine xi_getfield (pc' := 21) (v := .ref 83) kc_171_18 rfl rfl rfl e80 rfl ?_
  refine xi_iload_n (pc' := 22) (x := 19) kc_171_21 rfl rfl ?_
  refine xi_iaload (pc' := 23) (v := 2) kc_171_22 rfl e83 (by decide) rfl (xi_in (n := 24) (by decide) (by decide)) rfl ?_
  refine xi_iconst (pc' := 24) (v := 1) kc_171_23 rfl rfl ?_
  refine xi_cmt (pc' := 49) kc_171_24 rfl rfl ?_
  refine xi_iinc (pc' := 52) (x := 6) (v := 7) (lv' := [(3, .int 7), (2, .int 19), (1, .int 0), (0, .ref 80)]) kc_171_49 rfl rfl rfl rfl (xm_lt ml_171 rfl) ?_
  refine xi_goto (pc' := 12) kc_171_52 rfl ?_
  refine xi_iload_n (pc' := 13) (x := 7) kc_171_12 rfl rfl ?_
  refine xi_iload_n (pc' := 14) (x := 19) kc_171_13 rfl rfl ?_
  refine xi_cmf (pc' := 17) kc_171_14 rfl rfl ?_
  refine xi_aload_n (pc' := 18) (x := 80) kc_171_17 rfl rfl ?_
  refine xi_getfield (pc' := 21) (v := .ref 83) kc_171_18 rfl rfl rfl e80 rfl ?_
  refine xi_iload_n (pc' := 22) (x := 19) kc_171_21 rfl rfl ?_
  refine xi_iaload (pc' := 23) (v := 2) kc_171_22 rfl e83 (by decide) rfl (xi_in (n := 24) (by decide) (by decide)) rfl ?_
  refine xi_iconst (pc' := 24) (v := 1) kc_171_23 rfl rfl ?_
  refine xi_cmt (pc' := 49) kc_171_24 rfl rfl ?_
  refine xi_iinc (pc' := 52) (x := 7) (v := 8) (lv' := [(3, .int 8), (2, .int 19), (1, .int 0), (0, .ref 80)]) kc_171_49 rfl rfl rfl rfl (xm_lt ml_171 rfl) ?_
  refine xi_goto (pc' := 12) kc_171_52 rfl ?_
  refine xi_iload_n (pc' := 13) (x := 8) kc_171_12 rfl rfl ?_
  refine xi_iload_n (pc' := 14) (x := 19) kc_171_13 rfl rfl ?_
  refine xi_cmf (pc' := 17) kc_171_14 rfl rfl ?_
  refine xi_aload_n (pc' := 18) (x := 80) kc_171_17 rfl rfl ?_
  refine xi_getfield (pc' := 21) (v := .ref 83) kc_171_18 rfl rfl rfl e80 rfl ?_
  refine xi_iload_n (pc' := 22) (x := 19) kc_171_21 rfl rfl ?_
  refine xi_iaload (pc' := 23) (v := 2) kc_171_22 rfl e83 (by decide) rfl (xi_in (n := 24) (by decide) (by decide)) rfl ?_
  refine xi_iconst (pc' := 24) (v := 1) kc_171_23 rfl rfl ?_
  refine xi_cmt (pc' := 49) kc_171_24 rfl rfl ?_
  refine xi_iinc (pc' := 52) (x := 8) (v := 9) (lv' := [(3, .int 9), (2, .int 19), (1, .int 0), (0, .ref 80)]) kc_171_49 rfl rfl rfl rfl (xm_lt ml_171 rfl) ?_
  refine xi_goto (pc' := 12) kc_171_52 rfl ?_
  refine xi_iload_n (pc' := 13) (x := 9) kc_171_12 rfl rfl ?_
  refine xi_iload_n (pc' := 14) (x := 19) kc_171_13 rfl rfl ?_
  refine xi_cmf (pc' := 17) kc_171_14 rfl rfl ?_
  refine xi_aload_n (pc' := 18) (x := 80) kc_171_17 rfl rfl ?_
  refine xi_getfield (pc' := 21) (v := .ref 83) kc_171_18 rfl rfl rfl e80 rfl ?_
  refine xi_iload_n (pc' := 22) (x := 19) kc_171_21 rfl rfl ?_
  refine xi_iaload (pc' := 23) (v := 2) kc_171_22 rfl e83 (by decide) rfl (xi_in (n := 24) (by decide) (by decide)) rfl ?_
  refine xi_iconst (pc' := 24) (v := 1) kc_171_23 rfl rfl ?_
  refine xi_cmt (pc' := 49) kc_171_24 rfl rfl ?_
  refine xi_iinc (pc' := 52) (x := 9) (v := 10) (lv' := [(3, .int 10), (2, .int 19), (1, .int 0), (0, .ref 80)]) kc_171_49 rfl rfl rfl rfl (xm_lt ml_171 rfl) ?_
  refine xi_goto (pc' := 12) kc_171_52 rfl ?_
  refine xi_iload_n (pc' := 13) (x := 10) kc_171_12 rfl rfl ?_
  refine xi_iload_n (pc' := 14) (x := 19) kc_171_13 rfl rfl ?_
  refine xi_cmf (pc' := 17) kc_171_14 rfl rfl ?_
  refine xi_aload_n (pc' := 18) (x := 80) kc_171_17 rfl rfl ?_
  refine xi_getfield (pc' := 21) (v := .ref 83) kc_171_18 rfl rfl rfl e80 rfl ?_
  refine xi_iload_n (pc' := 22) (x := 19) kc_171_21 rfl rfl ?_
  refine xi_iaload (pc' := 23) (v := 2) kc_171_22 rfl e83 (by decide) rfl (xi_in (n := 24) (by decide) (by decide)) rfl ?_
  refine xi_iconst (pc' := 24) (v := 1) kc_171_23 rfl rfl ?_
  refine xi_cmt (pc' := 49) kc_171_24 rfl rfl ?_
  refine xi_iinc (pc' := 52) (x := 10) (v := 11) (lv' := [(3, .int 11), (2, .int 19), (1, .int 0), (0, .ref 80)]) kc_171_49 rfl rfl rfl rfl (xm_lt ml_171 rfl) ?_
  refine xi_goto (pc' := 12) kc_171_52 rfl ?_
  refine xi_iload_n (pc' := 13) (x := 11) kc_171_12 rfl rfl ?_
  refine xi_iload_n (pc' := 14) (x := 19) kc_171_13 rfl rfl ?_
  refine xi_cmf (pc' := 17) kc_171_14 rfl rfl ?_
  refine xi_aload_n (pc' := 18) (x := 80) kc_171_17 rfl rfl ?_
  refine xi_getfield (pc' := 21) (v := .ref 83) kc_171_18 rfl rfl rfl e80 rfl ?_
  refine xi_iload_n (pc' := 22) (x := 19) kc_171_21 rfl rfl ?_
  refine xi_iaload (pc' := 23) (v := 2) kc_171_22 rfl e83 (by decide) rfl (xi_in (n := 24) (by decide) (by decide)) rfl ?_
  refine xi_iconst (pc' := 24) (v := 1) kc_171_23 rfl rfl ?_
  refine xi_cmt (pc' := 49) kc_171_24 rfl rfl ?_
  refine xi_iinc (pc' := 52) (x := 11) (v := 12) (lv' := [(3, .int 12), (2, .int 19), (1, .int 0), (0, .ref 80)]) kc_171_49 rfl rfl rfl rfl (xm_lt ml_171 rfl) ?_
  refine xi_goto (pc' := 12) kc_171_52 rfl ?_
  refine xi_iload_n (pc' := 13) (x := 12) kc_171_12 rfl rfl ?_
  refine xi_iload_n (pc' := 14) (x := 19) kc_171_13 rfl rfl ?_
  refine xi_cmf (pc' := 17) kc_171_14 rfl rfl ?_
  refine xi_aload_n (pc' := 18) (x := 80) kc_171_17 rfl rfl ?_
  refine xi_getfield (pc' := 21) (v := .ref 83) kc_171_18 rfl rfl rfl e80 rfl ?_
  refine xi_iload_n (pc' := 22) (x := 19) kc_171_21 rfl rfl ?_
  refine xi_iaload (pc' := 23) (v := 2) kc_171_22 rfl e83 (by decide) rfl (xi_in (n := 24) (by decide) (by decide)) rfl ?_
  refine xi_iconst (pc' := 24) (v := 1) kc_171_23 rfl rfl ?_
  refine xi_cmt (pc' := 49) kc_171_24 rfl rfl ?_
  refine xi_iinc (pc' := 52) (x := 12) (v := 13) (lv' := [(3, .int 13), (2, .int 19), (1, .int 0), (0, .ref 80)]) kc_171_49 rfl rfl rfl rfl (xm_lt ml_171 rfl) ?_
  refine xi_goto (pc' := 12) kc_171_52 rfl ?_
  refine xi_iload_n (pc' := 13) (x := 13) kc_171_12 rfl rfl ?_
  refine xi_iload_n (pc' := 14) (x := 19) kc_171_13 rfl rfl ?_
  refine xi_cmf (pc' := 17) kc_171_14 rfl rfl ?_
  refine xi_aload_n (pc' := 18) (x := 80) kc_171_17 rfl rfl ?_
  refine xi_getfield (pc' := 21) (v := .ref 83) kc_171_18 rfl rfl rfl e80 rfl ?_
  refine xi_iload_n (pc' := 22) (x := 19) kc_171_21 rfl rfl ?_
  refine xi_iaload (pc' := 23) (v := 2) kc_171_22 rfl e83 (by decide) rfl (xi_in (n := 24) (by decide) (by decide)) rfl ?_
  refine xi_iconst (pc' := 24) (v := 1) kc_171_23 rfl rfl ?_
  refine xi_cmt (pc' := 49) kc_171_24 rfl rfl ?_
  refine xi_iinc (pc' := 52) (x := 13) (v := 14) (lv' := [(3, .int 14), (2, .int 19), (1, .int 0), (0, .ref 80)]) kc_171_49 rfl rfl rfl rfl (xm_lt ml_171 rfl) ?_
  refine xi_goto (pc' := 12) kc_171_52 rfl ?_
  refine xi_iload_n (pc' := 13) (x := 14) kc_171_12 rfl rfl ?_
  refine xi_iload_n (pc' := 14) (x := 19) kc_171_13 rfl rfl ?_
  refine xi_cmf (pc' := 17) kc_171_14 rfl rfl ?_
  refine xi_aload_n (pc' := 18) (x := 80) kc_171_17 rfl rfl ?_
  refine xi_getfield (pc' := 21) (v := .ref 83) kc_171_18 rfl rfl rfl e80 rfl ?_
  refine xi_iload_n (pc' := 22) (x := 19) kc_171_21 rfl rfl ?_
  refine xi_iaload (pc' := 23) (v := 2) kc_171_22 rfl e83 (by decide) rfl (xi_in (n := 24) (by decide) (by decide)) rfl ?_
  refine xi_iconst (pc' := 24) (v := 1) kc_171_23 rfl rfl ?_
  refine xi_cmt (pc' := 49) kc_171_24 rfl rfl ?_
  refine xi_iinc (pc' := 52) (x := 14) (v := 15) (lv' := [(3, .int 15), (2, .int 19), (1, .int 0), (0, .ref 80)]) kc_171_49 rfl rfl rfl rfl (xm_lt ml_171 rfl) ?_
  refine xi_goto (pc' := 12) kc_171_52 rfl ?_
  refine xi_iload_n (pc' := 13) (x := 15) kc_171_12 rfl rfl ?_
  refine xi_iload_n (pc' := 14) (x := 19) kc_171_13 rfl rfl ?_
  refine xi_cmf (pc' := 17) kc_171_14 rfl rfl ?_
  refine xi_aload_n (pc' := 18) (x := 80) kc_171_17 rfl rfl ?_
  refine xi_getfield (pc' := 21) (v := .ref 83) kc_171_18 rfl rfl rfl e80 rfl ?_
  refine xi_iload_n (pc' := 22) (x := 19) kc_171_21 rfl rfl ?_
  refine xi_iaload (pc' := 23) (v := 2) kc_171_22 rfl e83 (by decide) rfl (xi_in (n := 24) (by decide) (by decide)) rfl ?_
  refine xi_iconst (pc' := 24) (v := 1) kc_171_23 rfl rfl ?_
  refine xi_cmt (pc' := 49) kc_171_24 rfl rfl ?_
  refine xi_iinc (pc' := 52) (x := 15) (v := 16) (lv' := [(3, .int 16), (2, .int 19), (1, .int 0), (0, .ref 80)]) kc_171_49 rfl rfl rfl rfl (xm_lt ml_171 rfl) ?_
  refine xi_goto (pc' := 12) kc_171_52 rfl ?_
  refine xi_iload_n (pc' := 13) (x := 16) kc_171_12 rfl rfl ?_
  refine xi_iload_n (pc' := 14) (x := 19) kc_171_13 rfl rfl ?_
  refine xi_cmf (pc' := 17) kc_171_14 rfl rfl ?_
  refine xi_aload_n (pc' := 18) (x := 80) kc_171_17 rfl rfl ?_
  refine xi_getfield (pc' := 21) (v := .ref 83) kc_171_18 rfl rfl rfl e80 rfl ?_
  refine xi_iload_n (pc' := 22) (x := 19) kc_171_21 rfl rfl ?_
  refine xi_iaload (pc' := 23) (v := 2) kc_171_22 rfl e83 (by decide) rfl (xi_in (n := 24) (by decide) (by decide)) rfl ?_
  refine xi_iconst (pc' := 24) (v := 1) kc_171_23 rfl rfl ?_
  refine xi_cmt (pc' := 49) kc_171_24 rfl rfl ?_
  refine xi_iinc (pc' := 52) (x := 16) (v := 17) (lv' := [(3, .int 17), (2, .int 19), (1, .int 0), (0, .ref 80)]) kc_171_49 rfl rfl rfl rfl (xm_lt ml_171 rfl) ?_
  refine xi_goto (pc' := 12) kc_171_52 rfl ?_
  refine xi_iload_n (pc' := 13) (x := 17) kc_171_12 rfl rfl ?_
  refine xi_iload_n (pc' := 14) (x := 19) kc_171_13 rfl rfl ?_
  refine xi_cmf (pc' := 17) kc_171_14 rfl rfl ?_
  refine xi_aload_n (pc' := 18) (x := 80) kc_171_17 rfl rfl ?_
  refine xi_getfield (pc' := 21) (v := .ref 83) kc_171_18 rfl rfl rfl e80 rfl ?_
  refine xi_iload_n (pc' := 22) (x := 19) kc_171_21 rfl rfl ?_
  refine xi_iaload (pc' := 23) (v := 2) kc_171_22 rfl e83 (by decide) rfl (xi_in (n := 24) (by decide) (by decide)) rfl ?_
  refine xi_iconst (pc' := 24) (v := 1) kc_171_23 rfl rfl ?_
  refine xi_cmt (pc' := 49) kc_171_24 rfl rfl ?_
  refine xi_iinc (pc' := 52) (x := 17) (v := 18) (lv' := [(3, .int 18), (2, .int 19), (1, .int 0), (0, .ref 80)]) kc_171_49 rfl rfl rfl rfl (xm_lt ml_171 rfl) ?_
  refine xi_goto (pc' := 12) kc_171_52 rfl ?_
  refine xi_iload_n (pc' := 13) (x := 18) kc_171_12 rfl rfl ?_
  refine xi_iload_n (pc' := 14) (x := 19) kc_171_13 rfl rfl ?_
  refine xi_cmf (pc' := 17) kc_171_14 rfl rfl ?_
  refine xi_aload_n (pc' := 18) (x := 80) kc_171_17 rfl rfl ?_
  refine xi_getfield (pc' := 21) (v := .ref 83) kc_171_18 rfl rfl rfl e80 rfl ?_
  refine xi_iload_n (pc' := 22) (x := 19) kc_171_21 rfl rfl ?_
  refine xi_iaload (pc' := 23) (v := 2) kc_171_22 rfl e83 (by decide) rfl (xi_in (n := 24) (by decide) (by decide)) rfl ?_
  refine xi_iconst (pc' := 24) (v := 1) kc_171_23 rfl rfl ?_
  refine xi_cmt (pc' := 49) kc_171_24 rfl rfl ?_
  refine xi_iinc (pc' := 52) (x := 18) (v := 19) (lv' := [(3, .int 19), (2, .int 19), (1, .int 0), (0, .ref 80)]) kc_171_49 rfl rfl rfl rfl (xm_lt ml_171 rfl) ?_
  refine xi_goto (pc' := 12) kc_171_52 rfl ?_
  refine xi_iload_n (pc' := 13) (x := 19) kc_171_12 rfl rfl ?_
  refine xi_iload_n (pc' := 14) (x := 19) kc_171_13 rfl rfl ?_
  refine xi_cmt (pc' := 55) kc_171_14 rfl rfl ?_
  refine xi_iinc (pc' := 58) (x := 19) (v := 20) (lv' := [(2, .int 20), (3, .int 19), (1, .int 0), (0, .ref 80)]) kc_171_55 rfl rfl rfl rfl (xm_lt ml_171 rfl) ?_
  refine xi_goto (pc' := 4) kc_171_58 rfl ?_
  refine xi_iload_n (pc' := 5) (x := 20) kc_171_4 rfl rfl ?_
  refine xi_bipush (pc' := 7) (v := 24) kc_171_5 rfl rfl ?_
  refine xi_cmf (pc' := 10) kc_171_7 rfl rfl ?_
  refine xi_iconst (pc' := 11) (v := 0) kc_171_10 rfl rfl ?_
  refine xi_istore_n (pc' := 12) (lv' := [(3, .int 0), (2, .int 20), (1, .int 0), (0, .ref 80)]) kc_171_11 rfl rfl (xm_lt ml_171 rfl) ?_
  refine xi_iload_n (pc' := 13) (x := 0) kc_171_12 rfl rfl ?_
  refine xi_iload_n (pc' := 14) (x := 20) kc_171_13 rfl rfl ?_
  refine xi_cmf (pc' := 17) kc_171_14 rfl rfl ?_
  refine xi_aload_n (pc' := 18) (x := 80) kc_171_17 rfl rfl ?_
  refine xi_getfield (pc' := 21) (v := .ref 83) kc_171_18 rfl rfl rfl e80 rfl ?_
  refine xi_iload_n (pc' := 22) (x := 20) kc_171_21 rfl rfl ?_
  refine xi_iaload (pc' := 23) (v := 2) kc_171_22 rfl e83 (by decide) rfl (xi_in (n := 24) (by decide) (by decide)) rfl ?_
  refine xi_iconst (pc' := 24) (v := 1) kc_171_23 rfl rfl ?_
  refine xi_cmt (pc' := 49) kc_171_24 rfl rfl ?_
  refine xi_iinc (pc' := 52) (x := 0) (v := 1) (lv' := [(3, .int 1), (2, .int 20), (1, .int 0), (0, .ref 80)]) kc_171_49 rfl rfl rfl rfl (xm_lt ml_171 rfl) ?_
  refine xi_goto (pc' := 12) kc_171_52 rfl ?_
  refine xi_iload_n (pc' := 13) (x := 1) kc_171_12 rfl rfl ?_
  refine xi_iload_n (pc' := 14) (x := 20) kc_171_13 rfl rfl ?_
  refine xi_cmf (pc' := 17) kc_171_14 rfl rfl ?_
  refine xi_aload_n (pc' := 18) (x := 80) kc_171_17 rfl rfl ?_
  refine xi_getfield (pc' := 21) (v := .ref 83) kc_171_18 rfl rfl rfl e80 rfl ?_
  refine xi_iload_n (pc' := 22) (x := 20) kc_171_21 rfl rfl ?_
  refine xi_iaload (pc' := 23) (v := 2) kc_171_22 rfl e83 (by decide) rfl (xi_in (n := 24) (by decide) (by decide)) rfl ?_
  refine xi_iconst (pc' := 24) (v := 1) kc_171_23 rfl rfl ?_
  refine xi_cmt (pc' := 49) kc_171_24 rfl rfl ?_
  refine xi_iinc (pc' := 52) (x := 1) (v := 2) (lv' := [(3, .int 2), (2, .int 20), (1, .int 0), (0, .ref 80)]) kc_171_49 rfl rfl rfl rfl (xm_lt ml_171 rfl) ?_
  refine xi_goto (pc' := 12) kc_171_52 rfl ?_
  refine xi_iload_n (pc' := 13) (x := 2) kc_171_12 rfl rfl ?_
  refine xi_iload_n (pc' := 14) (x := 20) kc_171_13 rfl rfl ?_
  refine xi_cmf (pc' := 17) kc_171_14 rfl rfl ?_
  refine xi_aload_n (pc' := 18) (x := 80) kc_171_17 rfl rfl ?_
  refine xi_getfield (pc' := 21) (v := .ref 83) kc_171_18 rfl rfl rfl e80 rfl ?_
  refine xi_iload_n (pc' := 22) (x := 20) kc_171_21 rfl rfl ?_
  refine xi_iaload (pc' := 23) (v := 2) kc_171_22 rfl e83 (by decide) rfl (xi_in (n := 24) (by decide) (by decide)) rfl ?_
  refine xi_iconst (pc' := 24) (v := 1) kc_171_23 rfl rfl ?_
  refine xi_cmt (pc' := 49) kc_171_24 rfl rfl ?_
  refine xi_iinc (pc' := 52) (x := 2) (v := 3) (lv' := [(3, .int 3), (2, .int 20), (1, .int 0), (0, .ref 80)]) kc_171_49 rfl rfl rfl rfl (xm_lt ml_171 rfl) ?_
  refine xi_goto (pc' := 12) kc_171_52 rfl ?_
  refine xi_iload_n (pc' := 13) (x := 3) kc_171_12 rfl rfl ?_
  refine xi_iload_n (pc' := 14) (x := 20) kc_171_13 rfl rfl ?_
  refine xi_cmf (pc' := 17) kc_171_14 rfl rfl ?_
  refine xi_aload_n (pc' := 18) (x := 80) kc_171_17 rfl rfl ?_
  refine xi_getfield (pc' := 21) (v := .ref 83) kc_171_18 rfl rfl rfl e80 rfl ?_
  refine xi_iload_n (pc' := 22) (x := 20) kc_171_21 rfl rfl ?_
  refine xi_iaload (pc' := 23) (v := 2) kc_171_22 rfl e83 (by decide) rfl (xi_in (n := 24) (by decide) (by decide)) rfl ?_
  refine xi_iconst (pc' := 24) (v := 1) kc_171_23 rfl rfl ?_
  refine xi_cmt (pc' := 49) kc_171_24 rfl rfl ?_
  refine xi_iinc (pc' := 52) (x := 3) (v := 4) (lv' := [(3, .int 4), (2, .int 20), (1, .int 0), (0, .ref 80)]) kc_171_49 rfl rfl rfl rfl (xm_lt ml_171 rfl) ?_
  refine xi_goto (pc' := 12) kc_171_52 rfl ?_
  refine xi_iload_n (pc' := 13) (x := 4) kc_171_12 rfl rfl ?_
  refine xi_iload_n (pc' := 14) (x := 20) kc_171_13 rfl rfl ?_
  refine xi_cmf (pc' := 17) kc_171_14 rfl rfl ?_
  refine xi_aload_n (pc' := 18) (x := 80) kc_171_17 rfl rfl ?_
  refine xi_getfield (pc' := 21) (v := .ref 83) kc_171_18 rfl rfl rfl e80 rfl ?_
  refine xi_iload_n (pc' := 22) (x := 20) kc_171_21 rfl rfl ?_
  refine xi_iaload (pc' := 23) (v := 2) kc_171_22 rfl e83 (by decide) rfl (xi_in (n := 24) (by decide) (by decide)) rfl ?_
  refine xi_iconst (pc' := 24) (v := 1) kc_171_23 rfl rfl ?_
  refine xi_cmt (pc' := 49) kc_171_24 rfl rfl ?_
  refine xi_iinc (pc' := 52) (x := 4) (v := 5) (lv' := [(3, .int 5), (2, .int 20), (1, .int 0), (0, .ref 80)]) kc_171_49 rfl rfl rfl rfl (xm_lt ml_171 rfl) ?_
  refine xi_goto (pc' := 12) kc_171_52 rfl ?_
  refine xi_iload_n (pc' := 13) (x := 5) kc_171_12 rfl rfl ?_
  refine xi_iload_n (pc' := 14) (x := 20) kc_171_13 rfl rfl ?_
  refine xi_cmf (pc' := 17) kc_171_14 rfl rfl ?_
  refine xi_aload_n (pc' := 18) (x := 80) kc_171_17 rfl rfl ?_
  refine xi_getfield (pc' := 21) (v := .ref 83) kc_171_18 rfl rfl rfl e80 rfl ?_
  refine xi_iload_n (pc' := 22) (x := 20) kc_171_21 rfl rfl ?_
  refine xi_iaload (pc' := 23) (v := 2) kc_171_22 rfl e83 (by decide) rfl (xi_in (n := 24) (by decide) (by decide)) rfl ?_
  refine xi_iconst (pc' := 24) (v := 1) kc_171_23 rfl rfl ?_
  refine xi_cmt (pc' := 49) kc_171_24 rfl rfl ?_
  refine xi_iinc (pc' := 52) (x := 5) (v := 6) (lv' := [(3, .int 6), (2, .int 20), (1, .int 0), (0, .ref 80)]) kc_171_49 rfl rfl rfl rfl (xm_lt ml_171 rfl) ?_
  refine xi_goto (pc' := 12) kc_171_52 rfl ?_
  refine xi_iload_n (pc' := 13) (x := 6) kc_171_12 rfl rfl ?_
  refine xi_iload_n (pc' := 14) (x := 20) kc_171_13 rfl rfl ?_
  refine xi_cmf (pc' := 17) kc_171_14 rfl rfl ?_
  refine xi_aload_n (pc' := 18) (x := 80) kc_171_17 rfl rfl ?_
  refine xi_getfield (pc' := 21) (v := .ref 83) kc_171_18 rfl rfl rfl e80 rfl ?_
  refine xi_iload_n (pc' := 22) (x := 20) kc_171_21 rfl rfl ?_
  refine xi_iaload (pc' := 23) (v := 2) kc_171_22 rfl e83 (by decide) rfl (xi_in (n := 24) (by decide) (by decide)) rfl ?_
  refine xi_iconst (pc' := 24) (v := 1) kc_171_23 rfl rfl ?_
  refine xi_cmt (pc' := 49) kc_171_24 rfl rfl ?_
  refine xi_iinc (pc' := 52) (x := 6) (v := 7) (lv' := [(3, .int 7), (2, .int 20), (1, .int 0), (0, .ref 80)]) kc_171_49 rfl rfl rfl rfl (xm_lt ml_171 rfl) ?_
  refine xi_goto (pc' := 12) kc_171_52 rfl ?_
  refine xi_iload_n (pc' := 13) (x := 7) kc_171_12 rfl rfl ?_
  refine xi_iload_n (pc' := 14) (x := 20) kc_171_13 rfl rfl ?_
  refine xi_cmf (pc' := 17) kc_171_14 rfl rfl ?_
  refine xi_aload_n (pc' := 18) (x := 80) kc_171_17 rfl rfl ?_
  refine xi_getfield (pc' := 21) (v := .ref 83) kc_171_18 rfl rfl rfl e80 rfl ?_
  refine xi_iload_n (pc' := 22) (x := 20) kc_171_21 rfl rfl ?_
  refine xi_iaload (pc' := 23) (v := 2) kc_171_22 rfl e83 (by decide) rfl (xi_in (n := 24) (by decide) (by decide)) rfl ?_
  refine xi_iconst (pc' := 24) (v := 1) kc_171_23 rfl rfl ?_
  refine xi_cmt (pc' := 49) kc_171_24 rfl rfl ?_
  refine xi_iinc (pc' := 52) (x := 7) (v := 8) (lv' := [(3, .int 8), (2, .int 20), (1, .int 0), (0, .ref 80)]) kc_171_49 rfl rfl rfl rfl (xm_lt ml_171 rfl) ?_
  refine xi_goto (pc' := 12) kc_171_52 rfl ?_
  refine xi_iload_n (pc' := 13) (x := 8) kc_171_12 rfl rfl ?_
  refine xi_iload_n (pc' := 14) (x := 20) kc_171_13 rfl rfl ?_
  refine xi_cmf (pc' := 17) kc_171_14 rfl rfl ?_
  refine xi_aload_n (pc' := 18) (x := 80) kc_171_17 rfl rfl ?_
  refine xi_getfield (pc' := 21) (v := .ref 83) kc_171_18 rfl rfl rfl e80 rfl ?_
  refine xi_iload_n (pc' := 22) (x := 20) kc_171_21 rfl rfl ?_
  refine xi_iaload (pc' := 23) (v := 2) kc_171_22 rfl e83 (by decide) rfl (xi_in (n := 24) (by decide) (by decide)) rfl ?_
  refine xi_iconst (pc' := 24) (v := 1) kc_171_23 rfl rfl ?_
  refine xi_cmt (pc' := 49) kc_171_24 rfl rfl ?_
  refine xi_iinc (pc' := 52) (x := 8) (v := 9) (lv' := [(3, .int 9), (2, .int 20), (1, .int 0), (0, .ref 80)]) kc_171_49 rfl rfl rfl rfl (xm_lt ml_171 rfl) ?_
  refine xi_goto (pc' := 12) kc_171_52 rfl ?_
  refine xi_iload_n (pc' := 13) (x := 9) kc_171_12 rfl rfl ?_
  refine xi_iload_n (pc' := 14) (x := 20) kc_171_13 rfl rfl ?_
  refine xi_cmf (pc' := 17) kc_171_14 rfl rfl ?_
  refine xi_aload_n (pc' := 18) (x := 80) kc_171_17 rfl rfl ?_
  refine xi_getfield (pc' := 21) (v := .ref 83) kc_171_18 rfl rfl rfl e80 rfl ?_
  refine xi_iload_n (pc' := 22) (x := 20) kc_171_21 rfl rfl ?_
  refine xi_iaload (pc' := 23) (v := 2) kc_171_22 rfl e83 (by decide) rfl (xi_in (n := 24) (by decide) (by decide)) rfl ?_
  refine xi_iconst (pc' := 24) (v := 1) kc_171_23 rfl rfl ?_
  refine xi_cmt (pc' := 49) kc_171_24 rfl rfl ?_
  refine xi_iinc (pc' := 52) (x := 9) (v := 10) (lv' := [(3, .int 10), (2, .int 20), (1, .int 0), (0, .ref 80)]) kc_171_49 rfl rfl rfl rfl (xm_lt ml_171 rfl) ?_
  refine xi_goto (pc' := 12) kc_171_52 rfl ?_
  refine xi_iload_n (pc' := 13) (x := 10) kc_171_12 rfl rfl ?_
  refine xi_iload_n (pc' := 14) (x := 20) kc_171_13 rfl rfl ?_
  refine xi_cmf (pc' := 17) kc_171_14 rfl rfl ?_
  refine xi_aload_n (pc' := 18) (x := 80) kc_171_17 rfl rfl ?_
  refine xi_getfield (pc' := 21) (v := .ref 83) kc_171_18 rfl rfl rfl e80 rfl ?_
  refine xi_iload_n (pc' := 22) (x := 20) kc_171_21 rfl rfl ?_
  refine xi_iaload (pc' := 23) (v := 2) kc_171_22 rfl e83 (by decide) rfl (xi_in (n := 24) (by decide) (by decide)) rfl ?_
  refine xi_iconst (pc' := 24) (v := 1) kc_171_23 rfl rfl ?_
  refine xi_cmt (pc' := 49) kc_171_24 rfl rfl ?_
  refine xi_iinc (pc' := 52) (x := 10) (v := 11) (lv' := [(3, .int 11), (2, .int 20), (1, .int 0), (0, .ref 80)]) kc_171_49 rfl rfl rfl rfl (xm_lt ml_171 rfl) ?_
  refine xi_goto (pc' := 12) kc_171_52 rfl ?_
  refine xi_iload_n (pc' := 13) (x := 11) kc_171_12 rfl rfl ?_
  refine xi_iload_n (pc' := 14) (x := 20) kc_171_13 rfl rfl ?_
  refine xi_cmf (pc' := 17) kc_171_14 rfl rfl ?_
  refine xi_aload_n (pc' := 18) (x := 80) kc_171_17 rfl rfl ?_
  refine xi_getfield (pc' := 21) (v := .ref 83) kc_171_18 rfl rfl rfl e80 rfl ?_
  refine xi_iload_n (pc' := 22) (x := 20) kc_171_21 rfl rfl ?_
  refine xi_iaload (pc' := 23) (v := 2) kc_171_22 rfl e83 (by decide) rfl (xi_in (n := 24) (by decide) (by decide)) rfl ?_
  refine xi_iconst (pc' := 24) (v := 1) kc_171_23 rfl rfl ?_
  refine xi_cmt (pc' := 49) kc_171_24 rfl rfl ?_
  refine xi_iinc (pc' := 52) (x := 11) (v := 12) (lv' := [(3, .int 12), (2, .int 20), (1, .int 0), (0, .ref 80)]) kc_171_49 rfl rfl rfl rfl (xm_lt ml_171 rfl) ?_
  refine xi_goto (pc' := 12) kc_171_52 rfl ?_
  refine xi_iload_n (pc' := 13) (x := 12) kc_171_12 rfl rfl ?_
  refine xi_iload_n (pc' := 14) (x := 20) kc_171_13 rfl rfl ?_
  refine xi_cmf (pc' := 17) kc_171_14 rfl rfl ?_
  refine xi_aload_n (pc' := 18) (x := 80) kc_171_17 rfl rfl ?_
  refine xi_getfield (pc' := 21) (v := .ref 83) kc_171_18 rfl rfl rfl e80 rfl ?_
  refine xi_iload_n (pc' := 22) (x := 20) kc_171_21 rfl rfl ?_
  refine xi_iaload (pc' := 23) (v := 2) kc_171_22 rfl e83 (by decide) rfl (xi_in (n := 24) (by decide) (by decide)) rfl ?_
  refine xi_iconst (pc' := 24) (v := 1) kc_171_23 rfl rfl ?_
  refine xi_cmt (pc' := 49) kc_171_24 rfl rfl ?_
  refine xi_iinc (pc' := 52) (x := 12) (v := 13) (lv' := [(3, .int 13), (2, .int 20), (1, .int 0), (0, .ref 80)]) kc_171_49 rfl rfl rfl rfl (xm_lt ml_171 rfl) ?_
  refine xi_goto (pc' := 12) kc_171_52 rfl ?_
  refine xi_iload_n (pc' := 13) (x := 13) kc_171_12 rfl rfl ?_
  refine xi_iload_n (pc' := 14) (x := 20) kc_171_13 rfl rfl ?_
  refine xi_cmf (pc' := 17) kc_171_14 rfl rfl ?_
  refine xi_aload_n (pc' := 18) (x := 80) kc_171_17 rfl rfl ?_
  refine xi_getfield (pc' := 21) (v := .ref 83) kc_171_18 rfl rfl rfl e80 rfl ?_
  refine xi_iload_n (pc' := 22) (x := 20) kc_171_21 rfl rfl ?_
  refine xi_iaload (pc' := 23) (v := 2) kc_171_22 rfl e83 (by decide) rfl (xi_in (n := 24) (by decide) (by decide)) rfl ?_
  refine xi_iconst (pc' := 24) (v := 1) kc_171_23 rfl rfl ?_
  refine xi_cmt (pc' := 49) kc_171_24 rfl rfl ?_
  refine xi_iinc (pc' := 52) (x := 13) (v := 14) (lv' := [(3, .int 14), (2, .int 20), (1, .int 0), (0, .ref 80)]) kc_171_49 rfl rfl rfl rfl (xm_lt ml_171 rfl) ?_
  refine xi_goto (pc' := 12) kc_171_52 rfl ?_
  refine xi_iload_n (pc' := 13) (x := 14) kc_171_12 rfl rfl ?_
  refine xi_iload_n (pc' := 14) (x := 20) kc_171_13 rfl rfl ?_
  refine xi_cmf (pc' := 17) kc_171_14 rfl rfl ?_
  refine xi_aload_n (pc' := 18) (x := 80) kc_171_17 rfl rfl ?_
  refine xi_getfield (pc' := 21) (v := .ref 83) kc_171_18 rfl rfl rfl e80 rfl ?_
  refine xi_iload_n (pc' := 22) (x := 20) kc_171_21 rfl rfl ?_
  refine xi_iaload (pc' := 23) (v := 2) kc_171_22 rfl e83 (by decide) rfl (xi_in (n := 24) (by decide) (by decide)) rfl ?_
  refine xi_iconst (pc' := 24) (v := 1) kc_171_23 rfl rfl ?_
  refine xi_cmt (pc' := 49) kc_171_24 rfl rfl ?_
  refine xi_iinc (pc' := 52) (x := 14) (v := 15) (lv' := [(3, .int 15), (2, .int 20), (1, .int 0), (0, .ref 80)]) kc_171_49 rfl rfl rfl rfl (xm_lt ml_171 rfl) ?_
  refine xi_goto (pc' := 12) kc_171_52 rfl ?_
  refine xi_iload_n (pc' := 13) (x := 15) kc_171_12 rfl rfl ?_
  refine xi_iload_n (pc' := 14) (x := 20) kc_171_13 rfl rfl ?_
  refine xi_cmf (pc' := 17) kc_171_14 rfl rfl ?_
  refine xi_aload_n (pc' := 18) (x := 80) kc_171_17 rfl rfl ?_
  refine xi_getfield (pc' := 21) (v := .ref 83) kc_171_18 rfl rfl rfl e80 rfl ?_
  refine xi_iload_n (pc' := 22) (x := 20) kc_171_21 rfl rfl ?_
  refine xi_iaload (pc' := 23) (v := 2) kc_171_22 rfl e83 (by decide) rfl (xi_in (n := 24) (by decide) (by decide)) rfl ?_
  refine xi_iconst (pc' := 24) (v := 1) kc_171_23 rfl rfl ?_
  refine xi_cmt (pc' := 49) kc_171_24 rfl rfl ?_
  refine xi_iinc (pc' := 52) (x := 15) (v := 16) (lv' := [(3, .int 16), (2, .int 20), (1, .int 0), (0, .ref 80)]) kc_171_49 rfl rfl rfl rfl (xm_lt ml_171 rfl) ?_
  refine xi_goto (pc' := 12) kc_171_52 rfl ?_
  refine xi_iload_n (pc' := 13) (x := 16) kc_171_12 rfl rfl ?_
  refine xi_iload_n (pc' := 14) (x := 20) kc_171_13 rfl rfl ?_
  refine xi_cmf (pc' := 17) kc_171_14 rfl rfl ?_
  refine xi_aload_n (pc' := 18) (x := 80) kc_171_17 rfl rfl ?_
  refine xi_getfield (pc' := 21) (v := .ref 83) kc_171_18 rfl rfl rfl e80 rfl ?_
  refine xi_iload_n (pc' := 22) (x := 20) kc_171_21 rfl rfl ?_
  refine xi_iaload (pc' := 23) (v := 2) kc_171_22 rfl e83 (by decide) rfl (xi_in (n := 24) (by decide) (by decide)) rfl ?_
  refine xi_iconst (pc' := 24) (v := 1) kc_171_23 rfl rfl ?_
  refine xi_cmt (pc' := 49) kc_171_24 rfl rfl ?_
  refine xi_iinc (pc' := 52) (x := 16) (v := 17) (lv' := [(3, .int 17), (2, .int 20), (1, .int 0), (0, .ref 80)]) kc_171_49 rfl rfl rfl rfl (xm_lt ml_171 rfl) ?_
  refine xi_goto (pc' := 12) kc_171_52 rfl ?_
  refine xi_iload_n (pc' := 13) (x := 17) kc_171_12 rfl rfl ?_
  refine xi_iload_n (pc' := 14) (x := 20) kc_171_13 rfl rfl ?_
  refine xi_cmf (pc' := 17) kc_171_14 rfl rfl ?_
  refine xi_aload_n (pc' := 18) (x := 80) kc_171_17 rfl rfl ?_
  refine xi_getfield (pc' := 21) (v := .ref 83) kc_171_18 rfl rfl rfl e80 rfl ?_
  refine xi_iload_n (pc' := 22) (x := 20) kc_171_21 rfl rfl ?_
  refine xi_iaload (pc' := 23) (v := 2) kc_171_22 rfl e83 (by decide) rfl (xi_in (n := 24) (by decide) (by decide)) rfl ?_
  refine xi_iconst (pc' := 24) (v := 1) kc_171_23 rfl rfl ?_
  refine xi_cmt (pc' := 49) kc_171_24 rfl rfl ?_
  refine xi_iinc (pc' := 52) (x := 17) (v := 18) (lv' := [(3, .int 18), (2, .int 20), (1, .int 0), (0, .ref 80)]) kc_171_49 rfl rfl rfl rfl (xm_lt ml_171 rfl) ?_
  refine xi_goto (pc' := 12) kc_171_52 rfl ?_
  refine xi_iload_n (pc' := 13) (x := 18) kc_171_12 rfl rfl ?_
  refine xi_iload_n (pc' := 14) (x := 20) kc_171_13 rfl rfl ?_
  refine xi_cmf (pc' := 17) kc_171_14 rfl rfl ?_
  refine xi_aload_n (pc' := 18) (x := 80) kc_171_17 rfl rfl ?_
  refine xi_getfield (pc' := 21) (v := .ref 83) kc_171_18 rfl rfl rfl e80 rfl ?_
  refine xi_iload_n (pc' := 22) (x := 20) kc_171_21 rfl rfl ?_
  refine xi_iaload (pc' := 23) (v := 2) kc_171_22 rfl e83 (by decide) rfl (xi_in (n := 24) (by decide) (by decide)) rfl ?_
  refine xi_iconst (pc' := 24) (v := 1) kc_171_23 rfl rfl ?_
  refine xi_cmt (pc' := 49) kc_171_24 rfl rfl ?_
  refine xi_iinc (pc' := 52) (x := 18) (v := 19) (lv' := [(3, .int 19), (2, .int 20), (1, .int 0), (0, .ref 80)]) kc_171_49 rfl rfl rfl rfl (xm_lt ml_171 rfl) ?_
  refine xi_goto (pc' := 12) kc_171_52 rfl ?_
  refine xi_iload_n (pc' := 13) (x := 19) kc_171_12 rfl rfl ?_
  refine xi_iload_n (pc' := 14) (x := 20) kc_171_13 rfl rfl ?_
  refine xi_cmf (pc' := 17) kc_171_14 rfl rfl ?_
  refine xi_aload_n (pc' := 18) (x := 80) kc_171_17 rfl rfl ?_
  refine xi_getfield (pc' := 21) (v := .ref 83) kc_171_18 rfl rfl rfl e80 rfl ?_
  refine xi_iload_n (pc' := 22) (x := 20) kc_171_21 rfl rfl ?_
  refine xi_iaload (pc' := 23) (v := 2) kc_171_22 rfl e83 (by decide) rfl (xi_in (n := 24) (by decide) (by decide)) rfl ?_
  refine xi_iconst (pc' := 24) (v := 1) kc_171_23 rfl rfl ?_
  refine xi_cmt (pc' := 49) kc_171_24 rfl rfl ?_
  refine xi_iinc (pc' := 52) (x := 19) (v := 20) (lv' := [(3, .int 20), (2, .int 20), (1, .int 0), (0, .ref 80)]) kc_171_49 rfl rfl rfl rfl (xm_lt ml_171 rfl) ?_
  refine xi_goto (pc' := 12) kc_171_52 rfl ?_
  refine xi_iload_n (pc' := 13) (x := 20) kc_171_12 rfl rfl ?_
  refine xi_iload_n (pc' := 14) (x := 20) kc_171_13 rfl rfl ?_
  refine xi_cmt (pc' := 55) kc_171_14 rfl rfl ?_
  refine xi_iinc (pc' := 58) (x := 20) (v := 21) (lv' := [(2, .int 21), (3, .int 20), (1, .int 0), (0, .ref 80)]) kc_171_55 rfl rfl rfl rfl (xm_lt ml_171 rfl) ?_
  refine xi_goto (pc' := 4) kc_171_58 rfl ?_
  refine xi_iload_n (pc' := 5) (x := 21) kc_171_4 rfl rfl ?_
  refine xi_bipush (pc' := 7) (v := 24) kc_171_5 rfl rfl ?_
  refine xi_cmf (pc' := 10) kc_171_7 rfl rfl ?_
  refine xi_iconst (pc' := 11) (v := 0) kc_171_10 rfl rfl ?_
  refine xi_istore_n (pc' := 12) (lv' := [(3, .int 0), (2, .int 21), (1, .int 0), (0, .ref 80)]) kc_171_11 rfl rfl (xm_lt ml_171 rfl) ?_
  refine xi_iload_n (pc' := 13) (x := 0) kc_171_12 rfl rfl ?_
  refine xi_iload_n (pc' := 14) (x := 21) kc_171_13 rfl rfl ?_
  refine xi_cmf (pc' := 17) kc_171_14 rfl rfl ?_
  refine xi_aload_n (pc' := 18) (x := 80) kc_171_17 rfl rfl ?_
  refine xi_getfield (pc' := 21) (v := .ref 83) kc_171_18 rfl rfl rfl e80 rfl ?_
  refine xi_iload_n (pc' := 22) (x := 21) kc_171_21 rfl rfl ?_
  refine xi_iaload (pc' := 23) (v := 2) kc_171_22 rfl e83 (by decide) rfl (xi_in (n := 24) (by decide) (by decide)) rfl ?_
  refine xi_iconst (pc' := 24) (v := 1) kc_171_23 rfl rfl ?_
  refine xi_cmt (pc' := 49) kc_171_24 rfl rfl ?_
  refine xi_iinc (pc' := 52) (x := 0) (v := 1) (lv' := [(3, .int 1), (2, .int 21), (1, .int 0), (0, .ref 80)]) kc_171_49 rfl rfl rfl rfl (xm_lt ml_171 rfl) ?_
  refine xi_goto (pc' := 12) kc_171_52 rfl ?_
  refine xi_iload_n (pc' := 13) (x := 1) kc_171_12 rfl rfl ?_
  refine xi_iload_n (pc' := 14) (x := 21) kc_171_13 rfl rfl ?_
  refine xi_cmf (pc' := 17) kc_171_14 rfl rfl ?_
  refine xi_aload_n (pc' := 18) (x := 80) kc_171_17 rfl rfl ?_
  refine xi_getfield (pc' := 21) (v := .ref 83) kc_171_18 rfl rfl rfl e80 rfl ?_
  refine xi_iload_n (pc' := 22) (x := 21) kc_171_21 rfl rfl ?_
  refine xi_iaload (pc' := 23) (v := 2) kc_171_22 rfl e83 (by decide) rfl (xi_in (n := 24) (by decide) (by decide)) rfl ?_
  refine xi_iconst (pc' := 24) (v := 1) kc_171_23 rfl rfl ?_
  refine xi_cmt (pc' := 49) kc_171_24 rfl rfl ?_
  refine xi_iinc (pc' := 52) (x := 1) (v := 2) (lv' := [(3, .int 2), (2, .int 21), (1, .int 0), (0, .ref 80)]) kc_171_49 rfl rfl rfl rfl (xm_lt ml_171 rfl) ?_
  refine xi_goto (pc' := 12) kc_171_52 rfl ?_
  refine xi_iload_n (pc' := 13) (x := 2) kc_171_12 rfl rfl ?_
  refine xi_iload_n (pc' := 14) (x := 21) kc_171_13 rfl rfl ?_
  refine xi_cmf (pc' := 17) kc_171_14 rfl rfl ?_
  refine xi_aload_n (pc' := 18) (x := 80) kc_171_17 rfl rfl ?_
  refine xi_getfield (pc' := 21) (v := .ref 83) kc_171_18 rfl rfl rfl e80 rfl ?_
  refine xi_iload_n (pc' := 22) (x := 21) kc_171_21 rfl rfl ?_
  refine xi_iaload (pc' := 23) (v := 2) kc_171_22 rfl e83 (by decide) rfl (xi_in (n := 24) (by decide) (by decide)) rfl ?_
  refine xi_iconst (pc' := 24) (v := 1) kc_171_23 rfl rfl ?_
  refine xi_cmt (pc' := 49) kc_171_24 rfl rfl ?_
  refine xi_iinc (pc' := 52) (x := 2) (v := 3) (lv' := [(3, .int 3), (2, .int 21), (1, .int 0), (0, .ref 80)]) kc_171_49 rfl rfl rfl rfl (xm_lt ml_171 rfl) ?_
  refine xi_goto (pc' := 12) kc_171_52 rfl ?_
  refine xi_iload_n (pc' := 13) (x := 3) kc_171_12 rfl rfl ?_
  refine xi_iload_n (pc' := 14) (x := 21) kc_171_13 rfl rfl ?_
  refine xi_cmf (pc' := 17) kc_171_14 rfl rfl ?_
  refine xi_aload_n (pc' := 18) (x := 80) kc_171_17 rfl rfl ?_
  refine xi_getfield (pc' := 21) (v := .ref 83) kc_171_18 rfl rfl rfl e80 rfl ?_
  refine xi_iload_n (pc' := 22) (x := 21) kc_171_21 rfl rfl ?_
  refine xi_iaload (pc' := 23) (v := 2) kc_171_22 rfl e83 (by decide) rfl (xi_in (n := 24) (by decide) (by decide)) rfl ?_
  refine xi_iconst (pc' := 24) (v := 1) kc_171_23 rfl rfl ?_
  refine xi_cmt (pc' := 49) kc_171_24 rfl rfl ?_
  refine xi_iinc (pc' := 52) (x := 3) (v := 4) (lv' := [(3, .int 4), (2, .int 21), (1, .int 0), (0, .ref 80)]) kc_171_49 rfl rfl rfl rfl (xm_lt ml_171 rfl) ?_
  refine xi_goto (pc' := 12) kc_171_52 rfl ?_
  refine xi_iload_n (pc' := 13) (x := 4) kc_171_12 rfl rfl ?_
  refine xi_iload_n (pc' := 14) (x := 21) kc_171_13 rfl rfl ?_
  refine xi_cmf (pc' := 17) kc_171_14 rfl rfl ?_
  refine xi_aload_n (pc' := 18) (x := 80) kc_171_17 rfl rfl ?_
  refine xi_getfield (pc' := 21) (v := .ref 83) kc_171_18 rfl rfl rfl e80 rfl ?_
  refine xi_iload_n (pc' := 22) (x := 21) kc_171_21 rfl rfl ?_
  refine xi_iaload (pc' := 23) (v := 2) kc_171_22 rfl e83 (by decide) rfl (xi_in (n := 24) (by decide) (by decide)) rfl ?_
  refine xi_iconst (pc' := 24) (v := 1) kc_171_23 rfl rfl ?_
  refine xi_cmt (pc' := 49) kc_171_24 rfl rfl ?_
  refine xi_iinc (pc' := 52) (x := 4) (v := 5) (lv' := [(3, .int 5), (2, .int 21), (1, .int 0), (0, .ref 80)]) kc_171_49 rfl rfl rfl rfl (xm_lt ml_171 rfl) ?_
  refine xi_goto (pc' := 12) kc_171_52 rfl ?_
  refine xi_iload_n (pc' := 13) (x := 5) kc_171_12 rfl rfl ?_
  refine xi_iload_n (pc' := 14) (x := 21) kc_171_13 rfl rfl ?_
  refine xi_cmf (pc' := 17) kc_171_14 rfl rfl ?_
  refine xi_aload_n (pc' := 18) (x := 80) kc_171_17 rfl rfl ?_
  refine xi_getfield (pc' := 21) (v := .ref 83) kc_171_18 rfl rfl rfl e80 rfl ?_
  refine xi_iload_n (pc' := 22) (x := 21) kc_171_21 rfl rfl ?_
  refine xi_iaload (pc' := 23) (v := 2) kc_171_22 rfl e83 (by decide) rfl (xi_in (n := 24) (by decide) (by decide)) rfl ?_
  refine xi_iconst (pc' := 24) (v := 1) kc_171_23 rfl rfl ?_
  refine xi_cmt (pc' := 49) kc_171_24 rfl rfl ?_
  refine xi_iinc (pc' := 52) (x := 5) (v := 6) (lv' := [(3, .int 6), (2, .int 21), (1, .int 0), (0, .ref 80)]) kc_171_49 rfl rfl rfl rfl (xm_lt ml_171 rfl) ?_
  refine xi_goto (pc' := 12) kc_171_52 rfl ?_
  refine xi_iload_n (pc' := 13) (x := 6) kc_171_12 rfl rfl ?_
  refine xi_iload_n (pc' := 14) (x := 21) kc_171_13 rfl rfl ?_
  refine xi_cmf (pc' := 17) kc_171_14 rfl rfl ?_
  refine xi_aload_n (pc' := 18) (x := 80) kc_171_17 rfl rfl ?_
  refine xi_getfield (pc' := 21) (v := .ref 83) kc_171_18 rfl rfl rfl e80 rfl ?_
  refine xi_iload_n (pc' := 22) (x := 21) kc_171_21 rfl rfl ?_
  refine xi_iaload (pc' := 23) (v := 2) kc_171_22 rfl e83 (by decide) rfl (xi_in (n := 24) (by decide) (by decide)) rfl ?_
  refine xi_iconst (pc' := 24) (v := 1) kc_171_23 rfl rfl ?_
  refine xi_cmt (pc' := 49) kc_171_24 rfl rfl ?_
  refine xi_iinc (pc' := 52) (x := 6) (v := 7) (lv' := [(3, .int 7), (2, .int 21), (1, .int 0), (0, .ref 80)]) kc_171_49 rfl rfl rfl rfl (xm_lt ml_171 rfl) ?_
  refine xi_goto (pc' := 12) kc_171_52 rfl ?_
  refine xi_iload_n (pc' := 13) (x := 7) kc_171_12 rfl rfl ?_
  refine xi_iload_n (pc' := 14) (x := 21) kc_171_13 rfl rfl ?_
  refine xi_cmf (pc' := 17) kc_171_14 rfl rfl ?_
  refine xi_aload_n (pc' := 18) (x := 80) kc_171_17 rfl rfl ?_
  refine xi_getfield (pc' := 21) (v := .ref 83) kc_171_18 rfl rfl rfl e80 rfl ?_
  refine xi_iload_n (pc' := 22) (x := 21) kc_171_21 rfl rfl ?_
  refine xi_iaload (pc' := 23) (v := 2) kc_171_22 rfl e83 (by decide) rfl (xi_in (n := 24) (by decide) (by decide)) rfl ?_
  refine xi_iconst (pc' := 24) (v := 1) kc_171_23 rfl rfl ?_
  refine xi_cmt (pc' := 49) kc_171_24 rfl rfl ?_
  refine xi_iinc (pc' := 52) (x := 7) (v := 8) (lv' := [(3, .int 8), (2, .int 21), (1, .int 0), (0, .ref 80)]) kc_171_49 rfl rfl rfl rfl (xm_lt ml_171 rfl) ?_
  refine xi_goto (pc' := 12) kc_171_52 rfl ?_
  refine xi_iload_n (pc' := 13) (x := 8) kc_171_12 rfl rfl ?_
  refine xi_iload_n (pc' := 14) (x := 21) kc_171_13 rfl rfl ?_
  refine xi_cmf (pc' := 17) kc_171_14 rfl rfl ?_
  refine xi_aload_n (pc' := 18) (x := 80) kc_171_17 rfl rfl ?_
  refine xi_getfield (pc' := 21) (v := .ref 83) kc_171_18 rfl rfl rfl e80 rfl ?_
  refine xi_iload_n (pc' := 22) (x := 21) kc_171_21 rfl rfl ?_
  refine xi_iaload (pc' := 23) (v := 2) kc_171_22 rfl e83 (by decide) rfl (xi_in (n := 24) (by decide) (by decide)) rfl ?_
  refine xi_iconst (pc' := 24) (v := 1) kc_171_23 rfl rfl ?_
  refine xi_cmt (pc' := 49) kc_171_24 rfl rfl ?_
  refine xi_iinc (pc' := 52) (x := 8) (v := 9) (lv' := [(3, .int 9), (2, .int 21), (1, .int 0), (0, .ref 80)]) kc_171_49 rfl rfl rfl rfl (xm_lt ml_171 rfl) ?_
  refine xi_goto (pc' := 12) kc_171_52 rfl ?_
  refine xi_iload_n (pc' := 13) (x := 9) kc_171_12 rfl rfl ?_
  refine xi_iload_n (pc' := 14) (x := 21) kc_171_13 rfl rfl ?_
  refine xi_cmf (pc' := 17) kc_171_14 rfl rfl ?_
  refine xi_aload_n (pc' := 18) (x := 80) kc_171_17 rfl rfl ?_
  refine xi_getfield (pc' := 21) (v := .ref 83) kc_171_18 rfl rfl rfl e80 rfl ?_
  refine xi_iload_n (pc' := 22) (x := 21) kc_171_21 rfl rfl ?_
  refine xi_iaload (pc' := 23) (v := 2) kc_171_22 rfl e83 (by decide) rfl (xi_in (n := 24) (by decide) (by decide)) rfl ?_
  refine xi_iconst (pc' := 24) (v := 1) kc_171_23 rfl rfl ?_
  refine xi_cmt (pc' := 49) kc_171_24 rfl rfl ?_
  refine xi_iinc (pc' := 52) (x := 9) (v := 10) (lv' := [(3, .int 10), (2, .int 21), (1, .int 0), (0, .ref 80)]) kc_171_49 rfl rfl rfl rfl (xm_lt ml_171 rfl) ?_
  refine xi_goto (pc' := 12) kc_171_52 rfl ?_
  refine xi_iload_n (pc' := 13) (x := 10) kc_171_12 rfl rfl ?_
  refine xi_iload_n (pc' := 14) (x := 21) kc_171_13 rfl rfl ?_
  refine xi_cmf (pc' := 17) kc_171_14 rfl rfl ?_
  refine xi_aload_n (pc' := 18) (x := 80) kc_171_17 rfl rfl ?_
  refine xi_getfield (pc' := 21) (v := .ref 83) kc_171_18 rfl rfl rfl e80 rfl ?_
  refine xi_iload_n (pc' := 22) (x := 21) kc_171_21 rfl rfl ?_
  refine xi_iaload (pc' := 23) (v := 2) kc_171_22 rfl e83 (by decide) rfl (xi_in (n := 24) (by decide) (by decide)) rfl ?_
  refine xi_iconst (pc' := 24) (v := 1) kc_171_23 rfl rfl ?_
  refine xi_cmt (pc' := 49) kc_171_24 rfl rfl ?_
  refine xi_iinc (pc' := 52) (x := 10) (v := 11) (lv' := [(3, .int 11), (2, .int 21), (1, .int 0), (0, .ref 80)]) kc_171_49 rfl rfl rfl rfl (xm_lt ml_171 rfl) ?_
  refine xi_goto (pc' := 12) kc_171_52 rfl ?_
  refine xi_iload_n (pc' := 13) (x := 11) kc_171_12 rfl rfl ?_
  refine xi_iload_n (pc' := 14) (x := 21) kc_171_13 rfl rfl ?_
  refine xi_cmf (pc' := 17) kc_171_14 rfl rfl ?_
  refine xi_aload_n (pc' := 18) (x := 80) kc_171_17 rfl rfl ?_
  refine xi_getfield (pc' := 21) (v := .ref 83) kc_171_18 rfl rfl rfl e80 rfl ?_
  refine xi_iload_n (pc' := 22) (x := 21) kc_171_21 rfl rfl ?_
  refine xi_iaload (pc' := 23) (v := 2) kc_171_22 rfl e83 (by decide) rfl (xi_in (n := 24) (by decide) (by decide)) rfl ?_
  refine xi_iconst (pc' := 24) (v := 1) kc_171_23 rfl rfl ?_
  refine xi_cmt (pc' := 49) kc_171_24 rfl rfl ?_
  refine xi_iinc (pc' := 52) (x := 11) (v := 12) (lv' := [(3, .int 12), (2, .int 21), (1, .int 0), (0, .ref 80)]) kc_171_49 rfl rfl rfl rfl (xm_lt ml_171 rfl) ?_
  refine xi_goto (pc' := 12) kc_171_52 rfl ?_
  refine xi_iload_n (pc' := 13) (x := 12) kc_171_12 rfl rfl ?_
  refine xi_iload_n (pc' := 14) (x := 21) kc_171_13 rfl rfl ?_
  refine xi_cmf (pc' := 17) kc_171_14 rfl rfl ?_
  refine xi_aload_n (pc' := 18) (x := 80) kc_171_17 rfl rfl ?_
  refine xi_getfield (pc' := 21) (v := .ref 83) kc_171_18 rfl rfl rfl e80 rfl ?_
  refine xi_iload_n (pc' := 22) (x := 21) kc_171_21 rfl rfl ?_
  refine xi_iaload (pc' := 23) (v := 2) kc_171_22 rfl e83 (by decide) rfl (xi_in (n := 24) (by decide) (by decide)) rfl ?_
  refine xi_iconst (pc' := 24) (v := 1) kc_171_23 rfl rfl ?_
  refine xi_cmt (pc' := 49) kc_171_24 rfl rfl ?_
  refine xi_iinc (pc' := 52) (x := 12) (v := 13) (lv' := [(3, .int 13), (2, .int 21), (1, .int 0), (0, .ref 80)]) kc_171_49 rfl rfl rfl rfl (xm_lt ml_171 rfl) ?_
  refine xi_goto (pc' := 12) kc_171_52 rfl ?_
  refine xi_iload_n (pc' := 13) (x := 13) kc_171_12 rfl rfl ?_
  refine xi_iload_n (pc' := 14) (x := 21) kc_171_13 rfl rfl ?_
  refine xi_cmf (pc' := 17) kc_171_14 rfl rfl ?_
  refine xi_aload_n (pc' := 18) (x := 80) kc_171_17 rfl rfl ?_
  refine xi_getfield (pc' := 21) (v := .ref 83) kc_171_18 rfl rfl rfl e80 rfl ?_
  refine xi_iload_n (pc' := 22) (x := 21) kc_171_21 rfl rfl ?_
  refine xi_iaload (pc' := 23) (v := 2) kc_171_22 rfl e83 (by decide) rfl (xi_in (n := 24) (by decide) (by decide)) rfl ?_
  refine xi_iconst (pc' := 24) (v := 1) kc_171_23 rfl rfl ?_
  refine xi_cmt (pc' := 49) kc_171_24 rfl rfl ?_
  refine xi_iinc (pc' := 52) (x := 13) (v := 14) (lv' := [(3, .int 14), (2, .int 21), (1, .int 0), (0, .ref 80)]) kc_171_49 rfl rfl rfl rfl (xm_lt ml_171 rfl) ?_
  refine xi_goto (pc' := 12) kc_171_52 rfl ?_
  refine xi_iload_n (pc' := 13) (x := 14) kc_171_12 rfl rfl ?_
  refine xi_iload_n (pc' := 14) (x := 21) kc_171_13 rfl rfl ?_
  refine xi_cmf (pc' := 17) kc_171_14 rfl rfl ?_
  refine xi_aload_n (pc' := 18) (x := 80) kc_171_17 rfl rfl ?_
  refine xi_getfield (pc' := 21) (v := .ref 83) kc_171_18 rfl rfl rfl e80 rfl ?_
  refine xi_iload_n (pc' := 22) (x := 21) kc_171_21 rfl rfl ?_
  refine xi_iaload (pc' := 23) (v := 2) kc_171_22 rfl e83 (by decide) rfl (xi_in (n := 24) (by decide) (by decide)) rfl ?_
  refine xi_iconst (pc' := 24) (v := 1) kc_171_23 rfl rfl ?_
  refine xi_cmt (pc' := 49) kc_171_24 rfl rfl ?_
  refine xi_iinc (pc' := 52) (x := 14) (v := 15) (lv' := [(3, .int 15), (2, .int 21), (1, .int 0), (0, .ref 80)]) kc_171_49 rfl rfl rfl rfl (xm_lt ml_171 rfl) ?_
  refine xi_goto (pc' := 12) kc_171_52 rfl ?_
  refine xi_iload_n (pc' := 13) (x := 15) kc_171_12 rfl rfl ?_
  refine xi_iload_n (pc' := 14) (x := 21) kc_171_13 rfl rfl ?_
  refine xi_cmf (pc' := 17) kc_171_14 rfl rfl ?_
  refine xi_aload_n (pc' := 18) (x := 80) kc_171_17 rfl rfl ?_
  refine xi_getfield (pc' := 21) (v := .ref 83) kc_171_18 rfl rfl rfl e80 rfl ?_
  refine xi_iload_n (pc' := 22) (x := 21) kc_171_21 rfl rfl ?_
  refine xi_iaload (pc' := 23) (v := 2) kc_171_22 rfl e83 (by decide) rfl (xi_in (n := 24) (by decide) (by decide)) rfl ?_
  refine xi_iconst (pc' := 24) (v := 1) kc_171_23 rfl rfl ?_
  refine xi_cmt (pc' := 49) kc_171_24 rfl rfl ?_
  refine xi_iinc (pc' := 52) (x := 15) (v := 16) (lv' := [(3, .int 16), (2, .int 21), (1, .int 0), (0, .ref 80)]) kc_171_49 rfl rfl rfl rfl (xm_lt ml_171 rfl) ?_
  refine xi_goto (pc' := 12) kc_171_52 rfl ?_
  refine xi_iload_n (pc' := 13) (x := 16) kc_171_12 rfl rfl ?_
  refine xi_iload_n (pc' := 14) (x := 21) kc_171_13 rfl rfl ?_
  refine xi_cmf (pc' := 17) kc_171_14 rfl rfl ?_
  refine xi_aload_n (pc' := 18) (x := 80) kc_171_17 rfl rfl ?_
  refine xi_getfield (pc' := 21) (v := .ref 83) kc_171_18 rfl rfl rfl e80 rfl ?_
  refine xi_iload_n (pc' := 22) (x := 21) kc_171_21 rfl rfl ?_
  refine xi_iaload (pc' := 23) (v := 2) kc_171_22 rfl e83 (by decide) rfl (xi_in (n := 24) (by decide) (by decide)) rfl ?_
  refine xi_iconst (pc' := 24) (v := 1) kc_171_23 rfl rfl ?_
  refine xi_cmt (pc' := 49) kc_171_24 rfl rfl ?_
  refine xi_iinc (pc' := 52) (x := 16) (v := 17) (lv' := [(3, .int 17), (2, .int 21), (1, .int 0), (0, .ref 80)]) kc_171_49 rfl rfl rfl rfl (xm_lt ml_171 rfl) ?_
  refine xi_goto (pc' := 12) kc_171_52 rfl ?_
  refine xi_iload_n (pc' := 13) (x := 17) kc_171_12 rfl rfl ?_
  refine xi_iload_n (pc' := 14) (x := 21) kc_171_13 rfl rfl ?_
  refine xi_cmf (pc' := 17) kc_171_14 rfl rfl ?_
  refine xi_aload_n (pc' := 18) (x := 80) kc_171_17 rfl rfl ?_
  refine xi_getfield (pc' := 21) (v := .ref 83) kc_171_18 rfl rfl rfl e80 rfl ?_
  refine xi_iload_n (pc' := 22) (x := 21) kc_171_21 rfl rfl ?_
  refine xi_iaload (pc' := 23) (v := 2) kc_171_22 rfl e83 (by decide) rfl (xi_in (n := 24) (by decide) (by decide)) rfl ?_
  refine xi_iconst (pc' := 24) (v := 1) kc_171_23 rfl rfl ?_
  refine xi_cmt (pc' := 49) kc_171_24 rfl rfl ?_
  refine xi_iinc (pc' := 52) (x := 17) (v := 18) (lv' := [(3, .int 18), (2, .int 21), (1, .int 0), (0, .ref 80)]) kc_171_49 rfl rfl rfl rfl (xm_lt ml_171 rfl) ?_
  refine xi_goto (pc' := 12) kc_171_52 rfl ?_
  refine xi_iload_n (pc' := 13) (x := 18) kc_171_12 rfl rfl ?_
  refine xi_iload_n (pc' := 14) (x := 21) kc_171_13 rfl rfl ?_
  refine xi_cmf (pc' := 17) kc_171_14 rfl rfl ?_
  refine xi_aload_n (pc' := 18) (x := 80) kc_171_17 rfl rfl ?_
  refine xi_getfield (pc' := 21) (v := .ref 83) kc_171_18 rfl rfl rfl e80 rfl ?_
  refine xi_iload_n (pc' := 22) (x := 21) kc_171_21 rfl rfl ?_
  refine xi_iaload (pc' := 23) (v := 2) kc_171_22 rfl e83 (by decide) rfl (xi_in (n := 24) (by decide) (by decide)) rfl ?_
  refine xi_iconst (pc' := 24) (v := 1) kc_171_23 rfl rfl ?_
  refine xi_cmt (pc' := 49) kc_171_24 rfl rfl ?_
  refine xi_iinc (pc' := 52) (x := 18) (v := 19) (lv' := [(3, .int 19), (2, .int 21), (1, .int 0), (0, .ref 80)]) kc_171_49 rfl rfl rfl rfl (xm_lt ml_171 rfl) ?_
  refine xi_goto (pc' := 12) kc_171_52 rfl ?_
  refine xi_iload_n (pc' := 13) (x := 19) kc_171_12 rfl rfl ?_
  refine xi_iload_n (pc' := 14) (x := 21) kc_171_13 rfl rfl ?_
  refine xi_cmf (pc' := 17) kc_171_14 rfl rfl ?_
  refine xi_aload_n (pc' := 18) (x := 80) kc_171_17 rfl rfl ?_
  refine xi_getfield (pc' := 21) (v := .ref 83) kc_171_18 rfl rfl rfl e80 rfl ?_
  refine xi_iload_n (pc' := 22) (x := 21) kc_171_21 rfl rfl ?_
  refine xi_iaload (pc' := 23) (v := 2) kc_171_22 rfl e83 (by decide) rfl (xi_in (n := 24) (by decide) (by decide)) rfl ?_
  refine xi_iconst (pc' := 24) (v := 1) kc_171_23 rfl rfl ?_
  refine xi_cmt (pc' := 49) kc_171_24 rfl rfl ?_
  refine xi_iinc (pc' := 52) (x := 19) (v := 20) (lv' := [(3, .int 20), (2, .int 21), (1, .int 0), (0, .ref 80)]) kc_171_49 rfl rfl rfl rfl (xm_lt ml_171 rfl) ?_
  refine xi_goto (pc' := 12) kc_171_52 rfl ?_
  refine xi_iload_n (pc' := 13) (x := 20) kc_171_12 rfl rfl ?_
  refine xi_iload_n (pc' := 14) (x := 21) kc_171_13 rfl rfl ?_
  refine xi_cmf (pc' := 17) kc_171_14 rfl rfl ?_
  refine xi_aload_n (pc' := 18) (x := 80) kc_171_17 rfl rfl ?_
  refine xi_getfield (pc' := 21) (v := .ref 83) kc_171_18 rfl rfl rfl e80 rfl ?_
  refine xi_iload_n (pc' := 22) (x := 21) kc_171_21 rfl rfl ?_
  refine xi_iaload (pc' := 23) (v := 2) kc_171_22 rfl e83 (by decide) rfl (xi_in (n := 24) (by decide) (by decide)) rfl ?_
  refine xi_iconst (pc' := 24) (v := 1) kc_171_23 rfl rfl ?_
  refine xi_cmt (pc' := 49) kc_171_24 rfl rfl ?_
  refine xi_iinc (pc' := 52) (x := 20) (v := 21) (lv' := [(3, .int 21), (2, .int 21), (1, .int 0), (0, .ref 80)]) kc_171_49 rfl rfl rfl rfl (xm_lt ml_171 rfl) ?_
  refine xi_goto (pc' := 12) kc_171_52 rfl ?_
  refine xi_iload_n (pc' := 13) (x := 21) kc_171_12 rfl rfl ?_
  refine xi_iload_n (pc' := 14) (x := 21) kc_171_13 rfl rfl ?_
  refine xi_cmt (pc' := 55) kc_171_14 rfl rfl ?_
  refine xi_iinc (pc' := 58) (x := 21) (v := 22) (lv' := [(2, .int 22), (3, .int 21), (1, .int 0), (0, .ref 80)]) kc_171_55 rfl rfl rfl rfl (xm_lt ml_171 rfl) ?_
  refine xi_goto (pc' := 4) kc_171_58 rfl ?_
  refine xi_iload_n (pc' := 5) (x := 22) kc_171_4 rfl rfl ?_
  refine xi_bipush (pc' := 7) (v := 24) kc_171_5 rfl rfl ?_
  refine xi_cmf (pc' := 10) kc_171_7 rfl rfl ?_
  refine xi_iconst (pc' := 11) (v := 0) kc_171_10 rfl rfl ?_
  refine xi_istore_n (pc' := 12) (lv' := [(3, .int 0), (2, .int 22), (1, .int 0), (0, .ref 80)]) kc_171_11 rfl rfl (xm_lt ml_171 rfl) ?_
  refine xi_iload_n (pc' := 13) (x := 0) kc_171_12 rfl rfl ?_
  refine xi_iload_n (pc' := 14) (x := 22) kc_171_13 rfl rfl ?_
  refine xi_cmf (pc' := 17) kc_171_14 rfl rfl ?_
  refine xi_aload_n (pc' := 18) (x := 80) kc_171_17 rfl rfl ?_
  refine xi_getfield (pc' := 21) (v := .ref 83) kc_171_18 rfl rfl rfl e80 rfl ?_
  refine xi_iload_n (pc' := 22) (x := 22) kc_171_21 rfl rfl ?_
  refine xi_iaload (pc' := 23) (v := 2) kc_171_22 rfl e83 (by decide) rfl (xi_in (n := 24) (by decide) (by decide)) rfl ?_
  refine xi_iconst (pc' := 24) (v := 1) kc_171_23 rfl rfl ?_
  refine xi_cmt (pc' := 49) kc_171_24 rfl rfl ?_
  refine xi_iinc (pc' := 52) (x := 0) (v := 1) (lv' := [(3, .int 1), (2, .int 22), (1, .int 0), (0, .ref 80)]) kc_171_49 rfl rfl rfl rfl (xm_lt ml_171 rfl) ?_
  refine xi_goto (pc' := 12) kc_171_52 rfl ?_
  refine xi_iload_n (pc' := 13) (x := 1) kc_171_12 rfl rfl ?_
  refine xi_iload_n (pc' := 14) (x := 22) kc_171_13 rfl rfl ?_
  refine xi_cmf (pc' := 17) kc_171_14 rfl rfl ?_
  refine xi_aload_n (pc' := 18) (x := 80) kc_171_17 rfl rfl ?_
  refine xi_getfield (pc' := 21) (v := .ref 83) kc_171_18 rfl rfl rfl e80 rfl ?_
  refine xi_iload_n (pc' := 22) (x := 22) kc_171_21 rfl rfl ?_
  refine xi_iaload (pc' := 23) (v := 2) kc_171_22 rfl e83 (by decide) rfl (xi_in (n := 24) (by decide) (by decide)) rfl ?_
  refine xi_iconst (pc' := 24) (v := 1) kc_171_23 rfl rfl ?_
  refine xi_cmt (pc' := 49) kc_171_24 rfl rfl ?_
  refine xi_iinc (pc' := 52) (x := 1) (v := 2) (lv' := [(3, .int 2), (2, .int 22), (1, .int 0), (0, .ref 80)]) kc_171_49 rfl rfl rfl rfl (xm_lt ml_171 rfl) ?_
  refine xi_goto (pc' := 12) kc_171_52 rfl ?_
  refine xi_iload_n (pc' := 13) (x := 2) kc_171_12 rfl rfl ?_
  refine xi_iload_n (pc' := 14) (x := 22) kc_171_13 rfl rfl ?_
  refine xi_cmf (pc' := 17) kc_171_14 rfl rfl ?_
  refine xi_aload_n (pc' := 18) (x := 80) kc_171_17 rfl rfl ?_
  refine xi_getfield (pc' := 21) (v := .ref 83) kc_171_18 rfl rfl rfl e80 rfl ?_
  refine xi_iload_n (pc' := 22) (x := 22) kc_171_21 rfl rfl ?_
  refine xi_iaload (pc' := 23) (v := 2) kc_171_22 rfl e83 (by decide) rfl (xi_in (n := 24) (by decide) (by decide)) rfl ?_
  refine xi_iconst (pc' := 24) (v := 1) kc_171_23 rfl rfl ?_
  refine xi_cmt (pc' := 49) kc_171_24 rfl rfl ?_
  refine xi_iinc (pc' := 52) (x := 2) (v := 3) (lv' := [(3, .int 3), (2, .int 22), (1, .int 0), (0, .ref 80)]) kc_171_49 rfl rfl rfl rfl (xm_lt ml_171 rfl) ?_
  refine xi_goto (pc' := 12) kc_171_52 rfl ?_
  refine xi_iload_n (pc' := 13) (x := 3) kc_171_12 rfl rfl ?_
  refine xi_iload_n (pc' := 14) (x := 22) kc_171_13 rfl rfl ?_
  refine xi_cmf (pc' := 17) kc_171_14 rfl rfl ?_
  refine xi_aload_n (pc' := 18) (x := 80) kc_171_17 rfl rfl ?_
  refine xi_getfield (pc' := 21) (v := .ref 83) kc_171_18 rfl rfl rfl e80 rfl ?_
  refine xi_iload_n (pc' := 22) (x := 22) kc_171_21 rfl rfl ?_
  refine xi_iaload (pc' := 23) (v := 2) kc_171_22 rfl e83 (by decide) rfl (xi_in (n := 24) (by decide) (by decide)) rfl ?_
  refine xi_iconst (pc' := 24) (v := 1) kc_171_23 rfl rfl ?_
  refine xi_cmt (pc' := 49) kc_171_24 rfl rfl ?_
  refine xi_iinc (pc' := 52) (x := 3) (v := 4) (lv' := [(3, .int 4), (2, .int 22), (1, .int 0), (0, .ref 80)]) kc_171_49 rfl rfl rfl rfl (xm_lt ml_171 rfl) ?_
  refine xi_goto (pc' := 12) kc_171_52 rfl ?_
  refine xi_iload_n (pc' := 13) (x := 4) kc_171_12 rfl rfl ?_
  refine xi_iload_n (pc' := 14) (x := 22) kc_171_13 rfl rfl ?_
  refine xi_cmf (pc' := 17) kc_171_14 rfl rfl ?_
  refine xi_aload_n (pc' := 18) (x := 80) kc_171_17 rfl rfl ?_
  refine xi_getfield (pc' := 21) (v := .ref 83) kc_171_18 rfl rfl rfl e80 rfl ?_
  refine xi_iload_n (pc' := 22) (x := 22) kc_171_21 rfl rfl ?_
  refine xi_iaload (pc' := 23) (v := 2) kc_171_22 rfl e83 (by decide) rfl (xi_in (n := 24) (by decide) (by decide)) rfl ?_
  refine xi_iconst (pc' := 24) (v := 1) kc_171_23 rfl rfl ?_
  refine xi_cmt (pc' := 49) kc_171_24 rfl rfl ?_
  refine xi_iinc (pc' := 52) (x := 4) (v := 5) (lv' := [(3, .int 5), (2, .int 22), (1, .int 0), (0, .ref 80)]) kc_171_49 rfl rfl rfl rfl (xm_lt ml_171 rfl) ?_
  refine xi_goto (pc' := 12) kc_171_52 rfl ?_
  refine xi_iload_n (pc' := 13) (x := 5) kc_171_12 rfl rfl ?_
  refine xi_iload_n (pc' := 14) (x := 22) kc_171_13 rfl rfl ?_
  refine xi_cmf (pc' := 17) kc_171_14 rfl rfl ?_
  refine xi_aload_n (pc' := 18) (x := 80) kc_171_17 rfl rfl ?_
  refine xi_getfield (pc' := 21) (v := .ref 83) kc_171_18 rfl rfl rfl e80 rfl ?_
  refine xi_iload_n (pc' := 22) (x := 22) kc_171_21 rfl rfl ?_
  refine xi_iaload (pc' := 23) (v := 2) kc_171_22 rfl e83 (by decide) rfl (xi_in (n := 24) (by decide) (by decide)) rfl ?_
  refine xi_iconst (pc' := 24) (v := 1) kc_171_23 rfl rfl ?_
  refine xi_cmt (pc' := 49) kc_171_24 rfl rfl ?_
  refine xi_iinc (pc' := 52) (x := 5) (v := 6) (lv' := [(3, .int 6), (2, .int 22), (1, .int 0), (0, .ref 80)]) kc_171_49 rfl rfl rfl rfl (xm_lt ml_171 rfl) ?_
  refine xi_goto (pc' := 12) kc_171_52 rfl ?_
  refine xi_iload_n (pc' := 13) (x := 6) kc_171_12 rfl rfl ?_
  refine xi_iload_n (pc' := 14) (x := 22) kc_171_13 rfl rfl ?_
  refine xi_cmf (pc' := 17) kc_171_14 rfl rfl ?_
  refine xi_aload_n (pc' := 18) (x := 80) kc_171_17 rfl rfl ?_
  refine xi_getfield (pc' := 21) (v := .ref 83) kc_171_18 rfl rfl rfl e80 rfl ?_
  refine xi_iload_n (pc' := 22) (x := 22) kc_171_21 rfl rfl ?_
  refine xi_iaload (pc' := 23) (v := 2) kc_171_22 rfl e83 (by decide) rfl (xi_in (n := 24) (by decide) (by decide)) rfl ?_
  refine xi_iconst (pc' := 24) (v := 1) kc_171_23 rfl rfl ?_
  refine xi_cmt (pc' := 49) kc_171_24 rfl rfl ?_
  refine xi_iinc (pc' := 52) (x := 6) (v := 7) (lv' := [(3, .int 7), (2, .int 22), (1, .int 0), (0, .ref 80)]) kc_171_49 rfl rfl rfl rfl (xm_lt ml_171 rfl) ?_
  refine xi_goto (pc' := 12) kc_171_52 rfl ?_
  refine xi_iload_n (pc' := 13) (x := 7) kc_171_12 rfl rfl ?_
  refine xi_iload_n (pc' := 14) (x := 22) kc_171_13 rfl rfl ?_
  refine xi_cmf (pc' := 17) kc_171_14 rfl rfl ?_
  refine xi_aload_n (pc' := 18) (x := 80) kc_171_17 rfl rfl ?_
  refine xi_getfield (pc' := 21) (v := .ref 83) kc_171_18 rfl rfl rfl e80 rfl ?_
  refine xi_iload_n (pc' := 22) (x := 22) kc_171_21 rfl rfl ?_
  refine xi_iaload (pc' := 23) (v := 2) kc_171_22 rfl e83 (by decide) rfl (xi_in (n := 24) (by decide) (by decide)) rfl ?_
  refine xi_iconst (pc' := 24) (v := 1) kc_171_23 rfl rfl ?_
  refine xi_cmt (pc' := 49) kc_171_24 rfl rfl ?_
  refine xi_iinc (pc' := 52) (x := 7) (v := 8) (lv' := [(3, .int 8), (2, .int 22), (1, .int 0), (0, .ref 80)]) kc_171_49 rfl rfl rfl rfl (xm_lt ml_171 rfl) ?_
  refine xi_goto (pc' := 12) kc_171_52 rfl ?_
  refine xi_iload_n (pc' := 13) (x := 8) kc_171_12 rfl rfl ?_
  refine xi_iload_n (pc' := 14) (x := 22) kc_171_13 rfl rfl ?_
  refine xi_cmf (pc' := 17) kc_171_14 rfl rfl ?_
  refine xi_aload_n (pc' := 18) (x := 80) kc_171_17 rfl rfl ?_
  refine xi_getfield (pc' := 21) (v := .ref 83) kc_171_18 rfl rfl rfl e80 rfl ?_
  refine xi_iload_n (pc' := 22) (x := 22) kc_171_21 rfl rfl ?_
  refine xi_iaload (pc' := 23) (v := 2) kc_171_22 rfl e83 (by decide) rfl (xi_in (n := 24) (by decide) (by decide)) rfl ?_
  refine xi_iconst (pc' := 24) (v := 1) kc_171_23 rfl rfl ?_
  refine xi_cmt (pc' := 49) kc_171_24 rfl rfl ?_
  refine xi_iinc (pc' := 52) (x := 8) (v := 9) (lv' := [(3, .int 9), (2, .int 22), (1, .int 0), (0, .ref 80)]) kc_171_49 rfl rfl rfl rfl (xm_lt ml_171 rfl) ?_
  refine xi_goto (pc' := 12) kc_171_52 rfl ?_
  refine xi_iload_n (pc' := 13) (x := 9) kc_171_12 rfl rfl ?_
  refine xi_iload_n (pc' := 14) (x := 22) kc_171_13 rfl rfl ?_
  refine xi_cmf (pc' := 17) kc_171_14 rfl rfl ?_
  refine xi_aload_n (pc' := 18) (x := 80) kc_171_17 rfl rfl ?_
  refine xi_getfield (pc' := 21) (v := .ref 83) kc_171_18 rfl rfl rfl e80 rfl ?_
  refine xi_iload_n (pc' := 22) (x := 22) kc_171_21 rfl rfl ?_
  refine xi_iaload (pc' := 23) (v := 2) kc_171_22 rfl e83 (by decide) rfl (xi_in (n := 24) (by decide) (by decide)) rfl ?_
  refine xi_iconst (pc' := 24) (v := 1) kc_171_23 rfl rfl ?_
  refine xi_cmt (pc' := 49) kc_171_24 rfl rfl ?_
  refine xi_iinc (pc' := 52) (x := 9) (v := 10) (lv' := [(3, .int 10), (2, .int 22), (1, .int 0), (0, .ref 80)]) kc_171_49 rfl rfl rfl rfl (xm_lt ml_171 rfl) ?_
  refine xi_goto (pc' := 12) kc_171_52 rfl ?_
  refine xi_iload_n (pc' := 13) (x := 10) kc_171_12 rfl rfl ?_
  refine xi_iload_n (pc' := 14) (x := 22) kc_171_13 rfl rfl ?_
  refine xi_cmf (pc' := 17) kc_171_14 rfl rfl ?_
  refine xi_aload_n (pc' := 18) (x := 80) kc_171_17 rfl rfl ?_
  refine xi_getfield (pc' := 21) (v := .ref 83) kc_171_18 rfl rfl rfl e80 rfl ?_
  refine xi_iload_n (pc' := 22) (x := 22) kc_171_21 rfl rfl ?_
  refine xi_iaload (pc' := 23) (v := 2) kc_171_22 rfl e83 (by decide) rfl (xi_in (n := 24) (by decide) (by decide)) rfl ?_
  refine xi_iconst (pc' := 24) (v := 1) kc_171_23 rfl rfl ?_
  refine xi_cmt (pc' := 49) kc_171_24 rfl rfl ?_
  refine xi_iinc (pc' := 52) (x := 10) (v := 11) (lv' := [(3, .int 11), (2, .int 22), (1, .int 0), (0, .ref 80)]) kc_171_49 rfl rfl rfl rfl (xm_lt ml_171 rfl) ?_
  refine xi_goto (pc' := 12) kc_171_52 rfl ?_
  refine xi_iload_n (pc' := 13) (x := 11) kc_171_12 rfl rfl ?_
  refine xi_iload_n (pc' := 14) (x := 22) kc_171_13 rfl rfl ?_
  refine xi_cmf (pc' := 17) kc_171_14 rfl rfl ?_
  refine xi_aload_n (pc' := 18) (x := 80) kc_171_17 rfl rfl ?_
  refine xi_getfield (pc' := 21) (v := .ref 83) kc_171_18 rfl rfl rfl e80 rfl ?_
  refine xi_iload_n (pc' := 22) (x := 22) kc_171_21 rfl rfl ?_
  refine xi_iaload (pc' := 23) (v := 2) kc_171_22 rfl e83 (by decide) rfl (xi_in (n := 24) (by decide) (by decide)) rfl ?_
  refine xi_iconst (pc' := 24) (v := 1) kc_171_23 rfl rfl ?_
  refine xi_cmt (pc' := 49) kc_171_24 rfl rfl ?_
  refine xi_iinc (pc' := 52) (x := 11) (v := 12) (lv' := [(3, .int 12), (2, .int 22), (1, .int 0), (0, .ref 80)]) kc_171_49 rfl rfl rfl rfl (xm_lt ml_171 rfl) ?_
  refine xi_goto (pc' := 12) kc_171_52 rfl ?_
  refine xi_iload_n (pc' := 13) (x := 12) kc_171_12 rfl rfl ?_
  refine xi_iload_n (pc' := 14) (x := 22) kc_171_13 rfl rfl ?_
  refine xi_cmf (pc' := 17) kc_171_14 rfl rfl ?_
  refine xi_aload_n (pc' := 18) (x := 80) kc_171_17 rfl rfl ?_
  refine xi_getfield (pc' := 21) (v := .ref 83) kc_171_18 rfl rfl rfl e80 rfl ?_
  refine xi_iload_n (pc' := 22) (x := 22) kc_171_21 rfl rfl ?_
  refine xi_iaload (pc' := 23) (v := 2) kc_171_22 rfl e83 (by decide) rfl (xi_in (n := 24) (by decide) (by decide)) rfl ?_
  refine xi_iconst (pc' := 24) (v := 1) kc_171_23 rfl rfl ?_
  refine xi_cmt (pc' := 49) kc_171_24 rfl rfl ?_
  refine xi_iinc (pc' := 52) (x := 12) (v := 13) (lv' := [(3, .int 13), (2, .int 22), (1, .int 0), (0, .ref 80)]) kc_171_49 rfl rfl rfl rfl (xm_lt ml_171 rfl) ?_
  refine xi_goto (pc' := 12) kc_171_52 rfl ?_
  refine xi_iload_n (pc' := 13) (x := 13) kc_171_12 rfl rfl ?_
  refine xi_iload_n (pc' := 14) (x := 22) kc_171_13 rfl rfl ?_
  refine xi_cmf (pc' := 17) kc_171_14 rfl rfl ?_
  refine xi_aload_n (pc' := 18) (x := 80) kc_171_17 rfl rfl ?_
  refine xi_getfield (pc' := 21) (v := .ref 83) kc_171_18 rfl rfl rfl e80 rfl ?_
  refine xi_iload_n (pc' := 22) (x := 22) kc_171_21 rfl rfl ?_
  refine xi_iaload (pc' := 23) (v := 2) kc_171_22 rfl e83 (by decide) rfl (xi_in (n := 24) (by decide) (by decide)) rfl ?_
  refine xi_iconst (pc' := 24) (v := 1) kc_171_23 rfl rfl ?_
  refine xi_cmt (pc' := 49) kc_171_24 rfl rfl ?_
  refine xi_iinc (pc' := 52) (x := 13) (v := 14) (lv' := [(3, .int 14), (2, .int 22), (1, .int 0), (0, .ref 80)]) kc_171_49 rfl rfl rfl rfl (xm_lt ml_171 rfl) ?_
  refine xi_goto (pc' := 12) kc_171_52 rfl ?_
  refine xi_iload_n (pc' := 13) (x := 14) kc_171_12 rfl rfl ?_
  refine xi_iload_n (pc' := 14) (x := 22) kc_171_13 rfl rfl ?_
  refine xi_cmf (pc' := 17) kc_171_14 rfl rfl ?_
  refine xi_aload_n (pc' := 18) (x := 80) kc_171_17 rfl rfl ?_
  refine xi_getfield (pc' := 21) (v := .ref 83) kc_171_18 rfl rfl rfl e80 rfl ?_
  refine xi_iload_n (pc' := 22) (x := 22) kc_171_21 rfl rfl ?_
  refine xi_iaload (pc' := 23) (v := 2) kc_171_22 rfl e83 (by decide) rfl (xi_in (n := 24) (by decide) (by decide)) rfl ?_
  refine xi_iconst (pc' := 24) (v := 1) kc_171_23 rfl rfl ?_
  refine xi_cmt (pc' := 49) kc_171_24 rfl rfl ?_
  refine xi_iinc (pc' := 52) (x := 14) (v := 15) (lv' := [(3, .int 15), (2, .int 22), (1, .int 0), (0, .ref 80)]) kc_171_49 rfl rfl rfl rfl (xm_lt ml_171 rfl) ?_
  refine xi_goto (pc' := 12) kc_171_52 rfl ?_
  refine xi_iload_n (pc' := 13) (x := 15) kc_171_12 rfl rfl ?_
  refine xi_iload_n (pc' := 14) (x := 22) kc_171_13 rfl rfl ?_
  refine xi_cmf (pc' := 17) kc_171_14 rfl rfl ?_
  refine xi_aload_n (pc' := 18) (x := 80) kc_171_17 rfl rfl ?_
  refine xi_getfield (pc' := 21) (v := .ref 83) kc_171_18 rfl rfl rfl e80 rfl ?_
  refine xi_iload_n (pc' := 22) (x := 22) kc_171_21 rfl rfl ?_
  refine xi_iaload (pc' := 23) (v := 2) kc_171_22 rfl e83 (by decide) rfl (xi_in (n := 24) (by decide) (by decide)) rfl ?_
  refine xi_iconst (pc' := 24) (v := 1) kc_171_23 rfl rfl ?_
  refine xi_cmt (pc' := 49) kc_171_24 rfl rfl ?_
  refine xi_iinc (pc' := 52) (x := 15) (v := 16) (lv' := [(3, .int 16), (2, .int 22), (1, .int 0), (0, .ref 80)]) kc_171_49 rfl rfl rfl rfl (xm_lt ml_171 rfl) ?_
  refine xi_goto (pc' := 12) kc_171_52 rfl ?_
  refine xi_iload_n (pc' := 13) (x := 16) kc_171_12 rfl rfl ?_
  refine xi_iload_n (pc' := 14) (x := 22) kc_171_13 rfl rfl ?_
  refine xi_cmf (pc' := 17) kc_171_14 rfl rfl ?_
  refine xi_aload_n (pc' := 18) (x := 80) kc_171_17 rfl rfl ?_
  refine xi_getfield (pc' := 21) (v := .ref 83) kc_171_18 rfl rfl rfl e80 rfl ?_
  refine xi_iload_n (pc' := 22) (x := 22) kc_171_21 rfl rfl ?_
  refine xi_iaload (pc' := 23) (v := 2) kc_171_22 rfl e83 (by decide) rfl (xi_in (n := 24) (by decide) (by decide)) rfl ?_
  refine xi_iconst (pc' := 24) (v := 1) kc_171_23 rfl rfl ?_
  refine xi_cmt (pc' := 49) kc_171_24 rfl rfl ?_
  refine xi_iinc (pc' := 52) (x := 16) (v := 17) (lv' := [(3, .int 17), (2, .int 22), (1, .int 0), (0, .ref 80)]) kc_171_49 rfl rfl rfl rfl (xm_lt ml_171 rfl) ?_
  refine xi_goto (pc' := 12) kc_171_52 rfl ?_
  refine xi_iload_n (pc' := 13) (x := 17) kc_171_12 rfl rfl ?_
  refine xi_iload_n (pc' := 14) (x := 22) kc_171_13 rfl rfl ?_
  refine xi_cmf (pc' := 17) kc_171_14 rfl rfl ?_
  refine xi_aload_n (pc' := 18) (x := 80) kc_171_17 rfl rfl ?_
  refine xi_getfield (pc' := 21) (v := .ref 83) kc_171_18 rfl rfl rfl e80 rfl ?_
  refine xi_iload_n (pc' := 22) (x := 22) kc_171_21 rfl rfl ?_
  refine xi_iaload (pc' := 23) (v := 2) kc_171_22 rfl e83 (by decide) rfl (xi_in (n := 24) (by decide) (by decide)) rfl ?_
  refine xi_iconst (pc' := 24) (v := 1) kc_171_23 rfl rfl ?_
  refine xi_cmt (pc' := 49) kc_171_24 rfl rfl ?_
  refine xi_iinc (pc' := 52) (x := 17) (v := 18) (lv' := [(3, .int 18), (2, .int 22), (1, .int 0), (0, .ref 80)]) kc_171_49 rfl rfl rfl rfl (xm_lt ml_171 rfl) ?_
  refine xi_goto (pc' := 12) kc_171_52 rfl ?_
  refine xi_iload_n (pc' := 13) (x := 18) kc_171_12 rfl rfl ?_
  refine xi_iload_n (pc' := 14) (x := 22) kc_171_13 rfl rfl ?_
  refine xi_cmf (pc' := 17) kc_171_14 rfl rfl ?_
  refine xi_aload_n (pc' := 18) (x := 80) kc_171_17 rfl rfl ?_
  refine xi_getfield (pc' := 21) (v := .ref 83) kc_171_18 rfl rfl rfl e80 rfl ?_
  refine xi_iload_n (pc' := 22) (x := 22) kc_171_21 rfl rfl ?_
  refine xi_iaload (pc' := 23) (v := 2) kc_171_22 rfl e83 (by decide) rfl (xi_in (n := 24) (by decide) (by decide)) rfl ?_
  refine xi_iconst (pc' := 24) (v := 1) kc_171_23 rfl rfl ?_
  refine xi_cmt (pc' := 49) kc_171_24 rfl rfl ?_
  refine xi_iinc (pc' := 52) (x := 18) (v := 19) (lv' := [(3, .int 19), (2, .int 22), (1, .int 0), (0, .ref 80)]) kc_171_49 rfl rfl rfl rfl (xm_lt ml_171 rfl) ?_
  refine xi_goto (pc' := 12) kc_171_52 rfl ?_
  refine xi_iload_n (pc' := 13) (x := 19) kc_171_12 rfl rfl ?_
  refine xi_iload_n (pc' := 14) (x := 22) kc_171_13 rfl rfl ?_
  refine xi_cmf (pc' := 17) kc_171_14 rfl rfl ?_
  refine xi_aload_n (pc' := 18) (x := 80) kc_171_17 rfl rfl ?_
  refine xi_getfield (pc' := 21) (v := .ref 83) kc_171_18 rfl rfl rfl e80 rfl ?_
  refine xi_iload_n (pc' := 22) (x := 22) kc_171_21 rfl rfl ?_
  refine xi_iaload (pc' := 23) (v := 2) kc_171_22 rfl e83 (by decide) rfl (xi_in (n := 24) (by decide) (by decide)) rfl ?_
  refine xi_iconst (pc' := 24) (v := 1) kc_171_23 rfl rfl ?_
  refine xi_cmt (pc' := 49) kc_171_24 rfl rfl ?_
  refine xi_iinc (pc' := 52) (x := 19) (v := 20) (lv' := [(3, .int 20), (2, .int 22), (1, .int 0), (0, .ref 80)]) kc_171_49 rfl rfl rfl rfl (xm_lt ml_171 rfl) ?_
  refine xi_goto (pc' := 12) kc_171_52 rfl ?_
  refine xi_iload_n (pc' := 13) (x := 20) kc_171_12 rfl rfl ?_
  refine xi_iload_n (pc' := 14) (x := 22) kc_171_13 rfl rfl ?_
  refine xi_cmf (pc' := 17) kc_171_14 rfl rfl ?_
  refine xi_aload_n (pc' := 18) (x := 80) kc_171_17 rfl rfl ?_
  refine xi_getfield (pc' := 21) (v := .ref 83) kc_171_18 rfl rfl rfl e80 rfl ?_
  refine xi_iload_n (pc' := 22) (x := 22) kc_171_21 rfl rfl ?_
  refine xi_iaload (pc' := 23) (v := 2) kc_171_22 rfl e83 (by decide) rfl (xi_in (n := 24) (by decide) (by decide)) rfl ?_
  refine xi_iconst (pc' := 24) (v := 1) kc_171_23 rfl rfl ?_
  refine xi_cmt (pc' := 49) kc_171_24 rfl rfl ?_
  refine xi_iinc (pc' := 52) (x := 20) (v := 21) (lv' := [(3, .int 21), (2, .int 22), (1, .int 0), (0, .ref 80)]) kc_171_49 rfl rfl rfl rfl (xm_lt ml_171 rfl) ?_
  refine xi_goto (pc' := 12) kc_171_52 rfl ?_
  refine xi_iload_n (pc' := 13) (x := 21) kc_171_12 rfl rfl ?_
  refine xi_iload_n (pc' := 14) (x := 22) kc_171_13 rfl rfl ?_
  refine xi_cmf (pc' := 17) kc_171_14 rfl rfl ?_
  refine xi_aload_n (pc' := 18) (x := 80) kc_171_17 rfl rfl ?_
  refine xi_getfield (pc' := 21) (v := .ref 83) kc_171_18 rfl rfl rfl e80 rfl ?_
  refine xi_iload_n (pc' := 22) (x := 22) kc_171_21 rfl rfl ?_
  refine xi_iaload (pc' := 23) (v := 2) kc_171_22 rfl e83 (by decide) rfl (xi_in (n := 24) (by decide) (by decide)) rfl ?_
  refine xi_iconst (pc' := 24) (v := 1) kc_171_23 rfl rfl ?_
  refine xi_cmt (pc' := 49) kc_171_24 rfl rfl ?_
  refine xi_iinc (pc' := 52) (x := 21) (v := 22) (lv' := [(3, .int 22), (2, .int 22), (1, .int 0), (0, .ref 80)]) kc_171_49 rfl rfl rfl rfl (xm_lt ml_171 rfl) ?_
  refine xi_goto (pc' := 12) kc_171_52 rfl ?_
  refine xi_iload_n (pc' := 13) (x := 22) kc_171_12 rfl rfl ?_
  refine xi_iload_n (pc' := 14) (x := 22) kc_171_13 rfl rfl ?_
  refine xi_cmt (pc' := 55) kc_171_14 rfl rfl ?_
  refine xi_iinc (pc' := 58) (x := 22) (v := 23) (lv' := [(2, .int 23), (3, .int 22), (1, .int 0), (0, .ref 80)]) kc_171_55 rfl rfl rfl rfl (xm_lt ml_171 rfl) ?_
  refine xi_goto (pc' := 4) kc_171_58 rfl ?_
  refine xi_iload_n (pc' := 5) (x := 23) kc_171_4 rfl rfl ?_
  refine xi_bipush (pc' := 7) (v := 24) kc_171_5 rfl rfl ?_
  refine xi_cmf (pc' := 10) kc_171_7 rfl rfl ?_
  refine xi_iconst (pc' := 11) (v := 0) kc_171_10 rfl rfl ?_
  refine xi_istore_n (pc' := 12) (lv' := [(3, .int 0), (2, .int 23), (1, .int 0), (0, .ref 80)]) kc_171_11 rfl rfl (xm_lt ml_171 rfl) ?_
  refine xi_iload_n (pc' := 13) (x := 0) kc_171_12 rfl rfl ?_
  refine xi_iload_n (pc' := 14) (x := 23) kc_171_13 rfl rfl ?_
  refine xi_cmf (pc' := 17) kc_171_14 rfl rfl ?_
  refine xi_aload_n (pc' := 18) (x := 80) kc_171_17 rfl rfl ?_
  refine xi_getfield (pc' := 21) (v := .ref 83) kc_171_18 rfl rfl rfl e80 rfl ?_
  refine xi_iload_n (pc' := 22) (x := 23) kc_171_21 rfl rfl ?_
  refine xi_iaload (pc' := 23) (v := 2) kc_171_22 rfl e83 (by decide) rfl (xi_in (n := 24) (by decide) (by decide)) rfl ?_
  refine xi_iconst (pc' := 24) (v := 1) kc_171_23 rfl rfl ?_
  refine xi_cmt (pc' := 49) kc_171_24 rfl rfl ?_
  refine xi_iinc (pc' := 52) (x := 0) (v := 1) (lv' := [(3, .int 1), (2, .int 23), (1, .int 0), (0, .ref 80)]) kc_171_49 rfl rfl rfl rfl (xm_lt ml_171 rfl) ?_
  refine xi_goto (pc' := 12) kc_171_52 rfl ?_
  refine xi_iload_n (pc' := 13) (x := 1) kc_171_12 rfl rfl ?_
  refine xi_iload_n (pc' := 14) (x := 23) kc_171_13 rfl rfl ?_
  refine xi_cmf (pc' := 17) kc_171_14 rfl rfl ?_
  refine xi_aload_n (pc' := 18) (x := 80) kc_171_17 rfl rfl ?_
  refine xi_getfield (pc' := 21) (v := .ref 83) kc_171_18 rfl rfl rfl e80 rfl ?_
  refine xi_iload_n (pc' := 22) (x := 23) kc_171_21 rfl rfl ?_
  refine xi_iaload (pc' := 23) (v := 2) kc_171_22 rfl e83 (by decide) rfl (xi_in (n := 24) (by decide) (by decide)) rfl ?_
  refine xi_iconst (pc' := 24) (v := 1) kc_171_23 rfl rfl ?_
  refine xi_cmt (pc' := 49) kc_171_24 rfl rfl ?_
  refine xi_iinc (pc' := 52) (x := 1) (v := 2) (lv' := [(3, .int 2), (2, .int 23), (1, .int 0), (0, .ref 80)]) kc_171_49 rfl rfl rfl rfl (xm_lt ml_171 rfl) ?_
  refine xi_goto (pc' := 12) kc_171_52 rfl ?_
  refine xi_iload_n (pc' := 13) (x := 2) kc_171_12 rfl rfl ?_
  refine xi_iload_n (pc' := 14) (x := 23) kc_171_13 rfl rfl ?_
  refine xi_cmf (pc' := 17) kc_171_14 rfl rfl ?_
  refine xi_aload_n (pc' := 18) (x := 80) kc_171_17 rfl rfl ?_
  refine xi_getfield (pc' := 21) (v := .ref 83) kc_171_18 rfl rfl rfl e80 rfl ?_
  refine xi_iload_n (pc' := 22) (x := 23) kc_171_21 rfl rfl ?_
  refine xi_iaload (pc' := 23) (v := 2) kc_171_22 rfl e83 (by decide) rfl (xi_in (n := 24) (by decide) (by decide)) rfl ?_
  refine xi_iconst (pc' := 24) (v := 1) kc_171_23 rfl rfl ?_
  refine xi_cmt (pc' := 49) kc_171_24 rfl rfl ?_
  refine xi_iinc (pc' := 52) (x := 2) (v := 3) (lv' := [(3, .int 3), (2, .int 23), (1, .int 0), (0, .ref 80)]) kc_171_49 rfl rfl rfl rfl (xm_lt ml_171 rfl) ?_
  refine xi_goto (pc' := 12) kc_171_52 rfl ?_
  refine xi_iload_n (pc' := 13) (x := 3) kc_171_12 rfl rfl ?_
  refine xi_iload_n (pc' := 14) (x := 23) kc_171_13 rfl rfl ?_
  refine xi_cmf (pc' := 17) kc_171_14 rfl rfl ?_
  refine xi_aload_n (pc' := 18) (x := 80) kc_171_17 rfl rfl ?_
  refine xi_getfield (pc' := 21) (v := .ref 83) kc_171_18 rfl rfl rfl e80 rfl ?_
  refine xi_iload_n (pc' := 22) (x := 23) kc_171_21 rfl rfl ?_
  refine xi_iaload (pc' := 23) (v := 2) kc_171_22 rfl e83 (by decide) rfl (xi_in (n := 24) (by decide) (by decide)) rfl ?_
  refine xi_iconst (pc' := 24) (v := 1) kc_171_23 rfl rfl ?_
  refine xi_cmt (pc' := 49) kc_171_24 rfl rfl ?_
  refine xi_iinc (pc' := 52) (x := 3) (v := 4) (lv' := [(3, .int 4), (2, .int 23), (1, .int 0), (0, .ref 80)]) kc_171_49 rfl rfl rfl rfl (xm_lt ml_171 rfl) ?_
  refine xi_goto (pc' := 12) kc_171_52 rfl ?_
  refine xi_iload_n (pc' := 13) (x := 4) kc_171_12 rfl rfl ?_
  refine xi_iload_n (pc' := 14) (x := 23) kc_171_13 rfl rfl ?_
  refine xi_cmf (pc' := 17) kc_171_14 rfl rfl ?_
  refine xi_aload_n (pc' := 18) (x := 80) kc_171_17 rfl rfl ?_
  refine xi_getfield (pc' := 21) (v := .ref 83) kc_171_18 rfl rfl rfl e80 rfl ?_
  refine xi_iload_n (pc' := 22) (x := 23) kc_171_21 rfl rfl ?_
  refine xi_iaload (pc' := 23) (v := 2) kc_171_22 rfl e83 (by decide) rfl (xi_in (n := 24) (by decide) (by decide)) rfl ?_
  refine xi_iconst (pc' := 24) (v := 1) kc_171_23 rfl rfl ?_
  refine xi_cmt (pc' := 49) kc_171_24 rfl rfl ?_
  refine xi_iinc (pc' := 52) (x := 4) (v := 5) (lv' := [(3, .int 5), (2, .int 23), (1, .int 0), (0, .ref 80)]) kc_171_49 rfl rfl rfl rfl (xm_lt ml_171 rfl) ?_
  refine xi_goto (pc' := 12) kc_171_52 rfl ?_
  refine xi_iload_n (pc' := 13) (x := 5) kc_171_12 rfl rfl ?_
  refine xi_iload_n (pc' := 14) (x := 23) kc_171_13 rfl rfl ?_
  refine xi_cmf (pc' := 17) kc_171_14 rfl rfl ?_
  refine xi_aload_n (pc' := 18) (x := 80) kc_171_17 rfl rfl ?_
  refine xi_getfield (pc' := 21) (v := .ref 83) kc_171_18 rfl rfl rfl e80 rfl ?_
  refine xi_iload_n (pc' := 22) (x := 23) kc_171_21 rfl rfl ?_
  refine xi_iaload (pc' := 23) (v := 2) kc_171_22 rfl e83 (by decide) rfl (xi_in (n := 24) (by decide) (by decide)) rfl ?_
  refine xi_iconst (pc' := 24) (v := 1) kc_171_23 rfl rfl ?_
  refine xi_cmt (pc' := 49) kc_171_24 rfl rfl ?_
  refine xi_iinc (pc' := 52) (x := 5) (v := 6) (lv' := [(3, .int 6), (2, .int 23), (1, .int 0), (0, .ref 80)]) kc_171_49 rfl rfl rfl rfl (xm_lt ml_171 rfl) ?_
  refine xi_goto (pc' := 12) kc_171_52 rfl ?_
  refine xi_iload_n (pc' := 13) (x := 6) kc_171_12 rfl rfl ?_
  refine xi_iload_n (pc' := 14) (x := 23) kc_171_13 rfl rfl ?_
  refine xi_cmf (pc' := 17) kc_171_14 rfl rfl ?_
  refine xi_aload_n (pc' := 18) (x := 80) kc_171_17 rfl rfl ?_
  refine xi_getfield (pc' := 21) (v := .ref 83) kc_171_18 rfl rfl rfl e80 rfl ?_
  refine xi_iload_n (pc' := 22) (x := 23) kc_171_21 rfl rfl ?_
  refine xi_iaload (pc' := 23) (v := 2) kc_171_22 rfl e83 (by decide) rfl (xi_in (n := 24) (by decide) (by decide)) rfl ?_
  refine xi_iconst (pc' := 24) (v := 1) kc_171_23 rfl rfl ?_
  refine xi_cmt (pc' := 49) kc_171_24 rfl rfl ?_
  refine xi_iinc (pc' := 52) (x := 6) (v := 7) (lv' := [(3, .int 7), (2, .int 23), (1, .int 0), (0, .ref 80)]) kc_171_49 rfl rfl rfl rfl (xm_lt ml_171 rfl) ?_
  refine xi_goto (pc' := 12) kc_171_52 rfl ?_
  refine xi_iload_n (pc' := 13) (x := 7) kc_171_12 rfl rfl ?_
  refine xi_iload_n (pc' := 14) (x := 23) kc_171_13 rfl rfl ?_
  refine xi_cmf (pc' := 17) kc_171_14 rfl rfl ?_
  refine xi_aload_n (pc' := 18) (x := 80) kc_171_17 rfl rfl ?_
  refine xi_getfield (pc' := 21) (v := .ref 83) kc_171_18 rfl rfl rfl e80 rfl ?_
  refine xi_iload_n (pc' := 22) (x := 23) kc_171_21 rfl rfl ?_
  refine xi_iaload (pc' := 23) (v := 2) kc_171_22 rfl e83 (by decide) rfl (xi_in (n := 24) (by decide) (by decide)) rfl ?_
  refine xi_iconst (pc' := 24) (v := 1) kc_171_23 rfl rfl ?_
  refine xi_cmt (pc' := 49) kc_171_24 rfl rfl ?_
  refine xi_iinc (pc' := 52) (x := 7) (v := 8) (lv' := [(3, .int 8), (2, .int 23), (1, .int 0), (0, .ref 80)]) kc_171_49 rfl rfl rfl rfl (xm_lt ml_171 rfl) ?_
  refine xi_goto (pc' := 12) kc_171_52 rfl ?_
  refine xi_iload_n (pc' := 13) (x := 8) kc_171_12 rfl rfl ?_
  refine xi_iload_n (pc' := 14) (x := 23) kc_171_13 rfl rfl ?_
  refine xi_cmf (pc' := 17) kc_171_14 rfl rfl ?_
  refine xi_aload_n (pc' := 18) (x := 80) kc_171_17 rfl rfl ?_
  refine xi_getfield (pc' := 21) (v := .ref 83) kc_171_18 rfl rfl rfl e80 rfl ?_
  refine xi_iload_n (pc' := 22) (x := 23) kc_171_21 rfl rfl ?_
  refine xi_iaload (pc' := 23) (v := 2) kc_171_22 rfl e83 (by decide) rfl (xi_in (n := 24) (by decide) (by decide)) rfl ?_
  refine xi_iconst (pc' := 24) (v := 1) kc_171_23 rfl rfl ?_
  refine xi_cmt (pc' := 49) kc_171_24 rfl rfl ?_
  refine xi_iinc (pc' := 52) (x := 8) (v := 9) (lv' := [(3, .int 9), (2, .int 23), (1, .int 0), (0, .ref 80)]) kc_171_49 rfl rfl rfl rfl (xm_lt ml_171 rfl) ?_
  refine xi_goto (pc' := 12) kc_171_52 rfl ?_
  refine xi_iload_n (pc' := 13) (x := 9) kc_171_12 rfl rfl ?_
  refine xi_iload_n (pc' := 14) (x := 23) kc_171_13 rfl rfl ?_
  refine xi_cmf (pc' := 17) kc_171_14 rfl rfl ?_
  refine xi_aload_n (pc' := 18) (x := 80) kc_171_17 rfl rfl ?_
  refine xi_getfield (pc' := 21) (v := .ref 83) kc_171_18 rfl rfl rfl e80 rfl ?_
  refine xi_iload_n (pc' := 22) (x := 23) kc_171_21 rfl rfl ?_
  refine xi_iaload (pc' := 23) (v := 2) kc_171_22 rfl e83 (by decide) rfl (xi_in (n := 24) (by decide) (by decide)) rfl ?_
  refine xi_iconst (pc' := 24) (v := 1) kc_171_23 rfl rfl ?_
  refine xi_cmt (pc' := 49) kc_171_24 rfl rfl ?_
  refine xi_iinc (pc' := 52) (x := 9) (v := 10) (lv' := [(3, .int 10), (2, .int 23), (1, .int 0), (0, .ref 80)]) kc_171_49 rfl rfl rfl rfl (xm_lt ml_171 rfl) ?_
  refine xi_goto (pc' := 12) kc_171_52 rfl ?_
  refine xi_iload_n (pc' := 13) (x := 10) kc_171_12 rfl rfl ?_
  refine xi_iload_n (pc' := 14) (x := 23) kc_171_13 rfl rfl ?_
  refine xi_cmf (pc' := 17) kc_171_14 rfl rfl ?_
  refine xi_aload_n (pc' := 18) (x := 80) kc_171_17 rfl rfl ?_
  refine xi_getfield (pc' := 21) (v := .ref 83) kc_171_18 rfl rfl rfl e80 rfl ?_
  refine xi_iload_n (pc' := 22) (x := 23) kc_171_21 rfl rfl ?_
  refine xi_iaload (pc' := 23) (v := 2) kc_171_22 rfl e83 (by decide) rfl (xi_in (n := 24) (by decide) (by decide)) rfl ?_
  refine xi_iconst (pc' := 24) (v := 1) kc_171_23 rfl rfl ?_
  refine xi_cmt (pc' := 49) kc_171_24 rfl rfl ?_
  refine xi_iinc (pc' := 52) (x := 10) (v := 11) (lv' := [(3, .int 11), (2, .int 23), (1, .int 0), (0, .ref 80)]) kc_171_49 rfl rfl rfl rfl (xm_lt ml_171 rfl) ?_
  refine xi_goto (pc' := 12) kc_171_52 rfl ?_
  refine xi_iload_n (pc' := 13) (x := 11) kc_171_12 rfl rfl ?_
  refine xi_iload_n (pc' := 14) (x := 23) kc_171_13 rfl rfl ?_
  refine xi_cmf (pc' := 17) kc_171_14 rfl rfl ?_
  refine xi_aload_n (pc' := 18) (x := 80) kc_171_17 rfl rfl ?_
  refine xi_getfield (pc' := 21) (v := .ref 83) kc_171_18 rfl rfl rfl e80 rfl ?_
  refine xi_iload_n (pc' := 22) (x := 23) kc_171_21 rfl rfl ?_
  refine xi_iaload (pc' := 23) (v := 2) kc_171_22 rfl e83 (by decide) rfl (xi_in (n := 24) (by decide) (by decide)) rfl ?_
  refine xi_iconst (pc' := 24) (v := 1) kc_171_23 rfl rfl ?_
  refine xi_cmt (pc' := 49) kc_171_24 rfl rfl ?_
  refine xi_iinc (pc' := 52) (x := 11) (v := 12) (lv' := [(3, .int 12), (2, .int 23), (1, .int 0), (0, .ref 80)]) kc_171_49 rfl rfl rfl rfl (xm_lt ml_171 rfl) ?_
  refine xi_goto (pc' := 12) kc_171_52 rfl ?_
  refine xi_iload_n (pc' := 13) (x := 12) kc_171_12 rfl rfl ?_
  refine xi_iload_n (pc' := 14) (x := 23) kc_171_13 rfl rfl ?_
  refine xi_cmf (pc' := 17) kc_171_14 rfl rfl ?_
  refine xi_aload_n (pc' := 18) (x := 80) kc_171_17 rfl rfl ?_
  refine xi_getfield (pc' := 21) (v := .ref 83) kc_171_18 rfl rfl rfl e80 rfl ?_
  refine xi_iload_n (pc' := 22) (x := 23) kc_171_21 rfl rfl ?_
  refine xi_iaload (pc' := 23) (v := 2) kc_171_22 rfl e83 (by decide) rfl (xi_in (n := 24) (by decide) (by decide)) rfl ?_
  refine xi_iconst (pc' := 24) (v := 1) kc_171_23 rfl rfl ?_
  refine xi_cmt (pc' := 49) kc_171_24 rfl rfl ?_
  refine xi_iinc (pc' := 52) (x := 12) (v := 13) (lv' := [(3, .int 13), (2, .int 23), (1, .int 0), (0, .ref 80)]) kc_171_49 rfl rfl rfl rfl (xm_lt ml_171 rfl) ?_
  refine xi_goto (pc' := 12) kc_171_52 rfl ?_
  refine xi_iload_n (pc' := 13) (x := 13) kc_171_12 rfl rfl ?_
  refine xi_iload_n (pc' := 14) (x := 23) kc_171_13 rfl rfl ?_
  refine xi_cmf (pc' := 17) kc_171_14 rfl rfl ?_
  refine xi_aload_n (pc' := 18) (x := 80) kc_171_17 rfl rfl ?_
  refine xi_getfield (pc' := 21) (v := .ref 83) kc_171_18 rfl rfl rfl e80 rfl ?_
  refine xi_iload_n (pc' := 22) (x := 23) kc_171_21 rfl rfl ?_
  refine xi_iaload (pc' := 23) (v := 2) kc_171_22 rfl e83 (by decide) rfl (xi_in (n := 24) (by decide) (by decide)) rfl ?_
  refine xi_iconst (pc' := 24) (v := 1) kc_171_23 rfl rfl ?_
  refine xi_cmt (pc' := 49) kc_171_24 rfl rfl ?_
  refine xi_iinc (pc' := 52) (x := 13) (v := 14) (lv' := [(3, .int 14), (2, .int 23), (1, .int 0), (0, .ref 80)]) kc_171_49 rfl rfl rfl rfl (xm_lt ml_171 rfl) ?_
  refine xi_goto (pc' := 12) kc_171_52 rfl ?_
  refine xi_iload_n (pc' := 13) (x := 14) kc_171_12 rfl rfl ?_
  refine xi_iload_n (pc' := 14) (x := 23) kc_171_13 rfl rfl ?_
  refine xi_cmf (pc' := 17) kc_171_14 rfl rfl ?_
  refine xi_aload_n (pc' := 18) (x := 80) kc_171_17 rfl rfl ?_
  refine xi_getfield (pc' := 21) (v := .ref 83) kc_171_18 rfl rfl rfl e80 rfl ?_
  refine xi_iload_n (pc' := 22) (x := 23) kc_171_21 rfl rfl ?_
  refine xi_iaload (pc' := 23) (v := 2) kc_171_22 rfl e83 (by decide) rfl (xi_in (n := 24) (by decide) (by decide)) rfl ?_
  refine xi_iconst (pc' := 24) (v := 1) kc_171_23 rfl rfl ?_
  refine xi_cmt (pc' := 49) kc_171_24 rfl rfl ?_
  refine xi_iinc (pc' := 52) (x := 14) (v := 15) (lv' := [(3, .int 15), (2, .int 23), (1, .int 0), (0, .ref 80)]) kc_171_49 rfl rfl rfl rfl (xm_lt ml_171 rfl) ?_
  refine xi_goto (pc' := 12) kc_171_52 rfl ?_
  refine xi_iload_n (pc' := 13) (x := 15) kc_171_12 rfl rfl ?_
  refine xi_iload_n (pc' := 14) (x := 23) kc_171_13 rfl rfl ?_
  refine xi_cmf (pc' := 17) kc_171_14 rfl rfl ?_
  refine xi_aload_n (pc' := 18) (x := 80) kc_171_17 rfl rfl ?_
  refine xi_getfield (pc' := 21) (v := .ref 83) kc_171_18 rfl rfl rfl e80 rfl ?_
  refine xi_iload_n (pc' := 22) (x := 23) kc_171_21 rfl rfl ?_
  refine xi_iaload (pc' := 23) (v := 2) kc_171_22 rfl e83 (by decide) rfl (xi_in (n := 24) (by decide) (by decide)) rfl ?_
  refine xi_iconst (pc' := 24) (v := 1) kc_171_23 rfl rfl ?_
  refine xi_cmt (pc' := 49) kc_171_24 rfl rfl ?_
  refine xi_iinc (pc' := 52) (x := 15) (v := 16) (lv' := [(3, .int 16), (2, .int 23), (1, .int 0), (0, .ref 80)]) kc_171_49 rfl rfl rfl rfl (xm_lt ml_171 rfl) ?_
  refine xi_goto (pc' := 12) kc_171_52 rfl ?_
  refine xi_iload_n (pc' := 13) (x := 16) kc_171_12 rfl rfl ?_
  refine xi_iload_n (pc' := 14) (x := 23) kc_171_13 rfl rfl ?_
  refine xi_cmf (pc' := 17) kc_171_14 rfl rfl ?_
  refine xi_aload_n (pc' := 18) (x := 80) kc_171_17 rfl rfl ?_
  refine xi_getfield (pc' := 21) (v := .ref 83) kc_171_18 rfl rfl rfl e80 rfl ?_
  refine xi_iload_n (pc' := 22) (x := 23) kc_171_21 rfl rfl ?_
  refine xi_iaload (pc' := 23) (v := 2) kc_171_22 rfl e83 (by decide) rfl (xi_in (n := 24) (by decide) (by decide)) rfl ?_
  refine xi_iconst (pc' := 24) (v := 1) kc_171_23 rfl rfl ?_
  refine xi_cmt (pc' := 49) kc_171_24 rfl rfl ?_
  refine xi_iinc (pc' := 52) (x := 16) (v := 17) (lv' := [(3, .int 17), (2, .int 23), (1, .int 0), (0, .ref 80)]) kc_171_49 rfl rfl rfl rfl (xm_lt ml_171 rfl) ?_
  refine xi_goto (pc' := 12) kc_171_52 rfl ?_
  refine xi_iload_n (pc' := 13) (x := 17) kc_171_12 rfl rfl ?_
  refine xi_iload_n (pc' := 14) (x := 23) kc_171_13 rfl rfl ?_
  refine xi_cmf (pc' := 17) kc_171_14 rfl rfl ?_
  refine xi_aload_n (pc' := 18) (x := 80) kc_171_17 rfl rfl ?_
  refine xi_getfield (pc' := 21) (v := .ref 83) kc_171_18 rfl rfl rfl e80 rfl ?_
  refine xi_iload_n (pc' := 22) (x := 23) kc_171_21 rfl rfl ?_
  refine xi_iaload (pc' := 23) (v := 2) kc_171_22 rfl e83 (by decide) rfl (xi_in (n := 24) (by decide) (by decide)) rfl ?_
  refine xi_iconst (pc' := 24) (v := 1) kc_171_23 rfl rfl ?_
  refine xi_cmt (pc' := 49) kc_171_24 rfl rfl ?_
  refine xi_iinc (pc' := 52) (x := 17) (v := 18) (lv' := [(3, .int 18), (2, .int 23), (1, .int 0), (0, .ref 80)]) kc_171_49 rfl rfl rfl rfl (xm_lt ml_171 rfl) ?_
  refine xi_goto (pc' := 12) kc_171_52 rfl ?_
  refine xi_iload_n (pc' := 13) (x := 18) kc_171_12 rfl rfl ?_
  refine xi_iload_n (pc' := 14) (x := 23) kc_171_13 rfl rfl ?_
  refine xi_cmf (pc' := 17) kc_171_14 rfl rfl ?_
  refine xi_aload_n (pc' := 18) (x := 80) kc_171_17 rfl rfl ?_
  refine xi_getfield (pc' := 21) (v := .ref 83) kc_171_18 rfl rfl rfl e80 rfl ?_
  refine xi_iload_n (pc' := 22) (x := 23) kc_171_21 rfl rfl ?_
  refine xi_iaload (pc' := 23) (v := 2) kc_171_22 rfl e83 (by decide) rfl (xi_in (n := 24) (by decide) (by decide)) rfl ?_
  refine xi_iconst (pc' := 24) (v := 1) kc_171_23 rfl rfl ?_
  refine xi_cmt (pc' := 49) kc_171_24 rfl rfl ?_
  refine xi_iinc (pc' := 52) (x := 18) (v := 19) (lv' := [(3, .int 19), (2, .int 23), (1, .int 0), (0, .ref 80)]) kc_171_49 rfl rfl rfl rfl (xm_lt ml_171 rfl) ?_
  refine xi_goto (pc' := 12) kc_171_52 rfl ?_
  refine xi_iload_n (pc' := 13) (x := 19) kc_171_12 rfl rfl ?_
  refine xi_iload_n (pc' := 14) (x := 23) kc_171_13 rfl rfl ?_
  refine xi_cmf (pc' := 17) kc_171_14 rfl rfl ?_
  refine xi_aload_n (pc' := 18) (x := 80) kc_171_17 rfl rfl ?_
  refine xi_getfield (pc' := 21) (v := .ref 83) kc_171_18 rfl rfl rfl e80 rfl ?_
  refine xi_iload_n (pc' := 22) (x := 23) kc_171_21 rfl rfl ?_
  refine xi_iaload (pc' := 23) (v := 2) kc_171_22 rfl e83 (by decide) rfl (xi_in (n := 24) (by decide) (by decide)) rfl ?_
  refine xi_iconst (pc' := 24) (v := 1) kc_171_23 rfl rfl ?_
  refine xi_cmt (pc' := 49) kc_171_24 rfl rfl ?_
  refine xi_iinc (pc' := 52) (x := 19) (v := 20) (lv' := [(3, .int 20), (2, .int 23), (1, .int 0), (0, .ref 80)]) kc_171_49 rfl rfl rfl rfl (xm_lt ml_171 rfl) ?_
  refine xi_goto (pc' := 12) kc_171_52 rfl ?_
  refine xi_iload_n (pc' := 13) (x := 20) kc_171_12 rfl rfl ?_
  refine xi_iload_n (pc' := 14) (x := 23) kc_171_13 rfl rfl ?_
  refine xi_cmf (pc' := 17) kc_171_14 rfl rfl ?_
  refine xi_aload_n (pc' := 18) (x := 80) kc_171_17 rfl rfl ?_
  refine xi_getfield (pc' := 21) (v := .ref 83) kc_171_18 rfl rfl rfl e80 rfl ?_
  refine xi_iload_n (pc' := 22) (x := 23) kc_171_21 rfl rfl ?_
  refine xi_iaload (pc' := 23) (v := 2) kc_171_22 rfl e83 (by decide) rfl (xi_in (n := 24) (by decide) (by decide)) rfl ?_
  refine xi_iconst (pc' := 24) (v := 1) kc_171_23 rfl rfl ?_
  refine xi_cmt (pc' := 49) kc_171_24 rfl rfl ?_
  refine xi_iinc (pc' := 52) (x := 20) (v := 21) (lv' := [(3, .int 21), (2, .int 23), (1, .int 0), (0, .ref 80)]) kc_171_49 rfl rfl rfl rfl (xm_lt ml_171 rfl) ?_
  refine xi_goto (pc' := 12) kc_171_52 rfl ?_
  refine xi_iload_n (pc' := 13) (x := 21) kc_171_12 rfl rfl ?_
  refine xi_iload_n (pc' := 14) (x := 23) kc_171_13 rfl rfl ?_
  refine xi_cmf (pc' := 17) kc_171_14 rfl rfl ?_
  refine xi_aload_n (pc' := 18) (x := 80) kc_171_17 rfl rfl ?_
  refine xi_getfield (pc' := 21) (v := .ref 83) kc_171_18 rfl rfl rfl e80 rfl ?_
  refine xi_iload_n (pc' := 22) (x := 23) kc_171_21 rfl rfl ?_
  refine xi_iaload (pc' := 23) (v := 2) kc_171_22 rfl e83 (by decide) rfl (xi_in (n := 24) (by decide) (by decide)) rfl ?_
  refine xi_iconst (pc' := 24) (v := 1) kc_171_23 rfl rfl ?_
  refine xi_cmt (pc' := 49) kc_171_24 rfl rfl ?_
  refine xi_iinc (pc' := 52) (x := 21) (v := 22) (lv' := [(3, .int 22), (2, .int 23), (1, .int 0), (0, .ref 80)]) kc_171_49 rfl rfl rfl rfl (xm_lt ml_171 rfl) ?_
  refine xi_goto (pc' := 12) kc_171_52 rfl ?_
  refine xi_iload_n (pc' := 13) (x := 22) kc_171_12 rfl rfl ?_
  refine xi_iload_n (pc' := 14) (x := 23) kc_171_13 rfl rfl ?_
  refine xi_cmf (pc' := 17) kc_171_14 rfl rfl ?_
  refine xi_aload_n (pc' := 18) (x := 80) kc_171_17 rfl rfl ?_
  refine xi_getfield (pc' := 21) (v := .ref 83) kc_171_18 rfl rfl rfl e80 rfl ?_
  refine xi_iload_n (pc' := 22) (x := 23) kc_171_21 rfl rfl ?_
  refine xi_iaload (pc' := 23) (v := 2) kc_171_22 rfl e83 (by decide) rfl (xi_in (n := 24) (by decide) (by decide)) rfl ?_
  refine xi_iconst (pc' := 24) (v := 1) kc_171_23 rfl rfl ?_
  refine xi_cmt (pc' := 49) kc_171_24 rfl rfl ?_
  refine xi_iinc (pc' := 52) (x := 22) (v := 23) (lv' := [(3, .int 23), (2, .int 23), (1, .int 0), (0, .ref 80)]) kc_171_49 rfl rfl rfl rfl (xm_lt ml_171 rfl) ?_
  refine xi_goto (pc' := 12) kc_171_52 rfl ?_
  refine xi_iload_n (pc' := 13) (x := 23) kc_171_12 rfl rfl ?_
  refine xi_iload_n (pc' := 14) (x := 23) kc_171_13 rfl rfl ?_
  refine xi_cmt (pc' := 55) kc_171_14 rfl rfl ?_
  refine xi_iinc (pc' := 58) (x := 23) (v := 24) (lv' := [(2, .int 24), (3, .int 23), (1, .int 0), (0, .ref 80)]) kc_171_55 rfl rfl rfl rfl (xm_lt ml_171 rfl) ?_
  refine xi_goto (pc' := 4) kc_171_58 rfl ?_
  refine xi_iload_n (pc' := 5) (x := 24) kc_171_4 rfl rfl ?_
  refine xi_bipush (pc' := 7) (v := 24) kc_171_5 rfl rfl ?_
  refine xi_cmt (pc' := 61) kc_171_7 rfl rfl ?_
  refine xi_iload_n (pc' := 62) (x := 0) kc_171_61 rfl rfl ?_
  refine xi_ireturn kc_171_62 mr_171 rfl ?_
  exact kk
set_option maxHeartbeats 8000000 in
set_option maxRecDepth 100000 in
theorem mj_ref {J : xe_J} {ov : List (List Int32)} {d : Nat} (hJ : ∀ d mj as h, mj ≠ xe_loff → J d mj as h = none) {Q : Option Value → xe_H → Prop} {h0 : xe_H} (e115 : h0[115]? = some (.inr (12, [.int 0, .int 0, .ref 116, .ref 117, .ref 118, .ref 119, .ref 120, .ref 121, .ref 122, .ref 123, .ref 124, .ref 125, .ref 126, .ref 127, .ref 128, .ref 129, .int 4, .ref 130, .int 0, .ref 131, .ref 132, .ref 133, .ref 134, .int 0, .ref 135, .ref 136, .ref 137, .ref 138, .ref 139, .ref 140, .ref 141, .ref 142, .int 0, .int 0, .int 0, .ref 143, .ref 144, .ref 145, .ref 146, .ref 147, .ref 148, .int 0, .ref 149, .ref 150, .ref 151, .int 0, .ref 152, .ref 153, .ref 154, .ref 155, .ref 156, .ref 157, .ref 158, .ref 159, .int 0, .ref 160, .int 0, .ref 161, .ref 162, .ref 163, .ref 164, .int 0, .ref 165, .ref 166]))) (e158 : h0[158]? = some (.inl (0, .inl (List.replicate 24 2)))) (kk : Q (some (.int 0)) h0) : xw J ov (d + 1) 67 (0, [(0, .ref 115)], [], h0) Q := by
  refine xi_iconst (pc' := 1) (v := 0) kc_67_0 rfl rfl ?_
  refine xi_istore_n (pc' := 2) (lv' := [(1, .int 0), (0, .ref 115)]) kc_67_1 rfl rfl (xm_lt ml_67 rfl) ?_
  refine xi_iconst (pc' := 3) (v := 0) kc_67_2 rfl rfl ?_
  refine xi_istore_n (pc' := 4) (lv' := [(2, .int 0), (1, .int 0), (0, .ref 115)]) kc_67_3 rfl rfl (xm_lt ml_67 rfl) ?_
  refine xi_iload_n (pc' := 5) (x := 0) kc_67_4 rfl rfl ?_
  refine xi_bipush (pc' := 7) (v := 24) kc_67_5 rfl rfl ?_
  refine xi_cmf (pc' := 10) kc_67_7 rfl rfl ?_
  refine xi_iconst (pc' := 11) (v := 0) kc_67_10 rfl rfl ?_
  refine xi_istore_n (pc' := 12) (lv' := [(3, .int 0), (2, .int 0), (1, .int 0), (0, .ref 115)]) kc_67_11 rfl rfl (xm_lt ml_67 rfl) ?_
  refine xi_iload_n (pc' := 13) (x := 0) kc_67_12 rfl rfl ?_
  refine xi_iload_n (pc' := 14) (x := 0) kc_67_13 rfl rfl ?_
  refine xi_cmt (pc' := 60) kc_67_14 rfl rfl ?_
  refine xi_iinc (pc' := 63) (x := 0) (v := 1) (lv' := [(2, .int 1), (3, .int 0), (1, .int 0), (0, .ref 115)]) kc_67_60 rfl rfl rfl rfl (xm_lt ml_67 rfl) ?_
  refine xi_goto (pc' := 4) kc_67_63 rfl ?_
  refine xi_iload_n (pc' := 5) (x := 1) kc_67_4 rfl rfl ?_
  refine xi_bipush (pc' := 7) (v := 24) kc_67_5 rfl rfl ?_
  refine xi_cmf (pc' := 10) kc_67_7 rfl rfl ?_
  refine xi_iconst (pc' := 11) (v := 0) kc_67_10 rfl rfl ?_
  refine xi_istore_n (pc' := 12) (lv' := [(3, .int 0), (2, .int 1), (1, .int 0), (0, .ref 115)]) kc_67_11 rfl rfl (xm_lt ml_67 rfl) ?_
  refine xi_iload_n (pc' := 13) (x := 0) kc_67_12 rfl rfl ?_
  refine xi_iload_n (pc' := 14) (x := 1) kc_67_13 rfl rfl ?_
  refine xi_cmf (pc' := 17) kc_67_14 rfl rfl ?_
  refine xi_iload_n (pc' := 18) (x := 0) kc_67_17 rfl rfl ?_
  refine xi_aload_n (pc' := 19) (x := 115) kc_67_18 rfl rfl ?_
  refine xi_getfield (pc' := 22) (v := .ref 158) kc_67_19 rfl rfl rfl e115 rfl ?_
  refine xi_iload_n (pc' := 23) (x := 1) kc_67_22 rfl rfl ?_
  refine xi_iaload (pc' := 24) (v := 2) kc_67_23 rfl e158 (by decide) rfl (xi_in (n := 24) (by decide) (by decide)) rfl ?_
  refine xi_iconst (pc' := 25) (v := 1) kc_67_24 rfl rfl ?_
  refine xi_cmt (pc' := 51) kc_67_25 rfl rfl ?_
  refine xi_iconst (pc' := 52) (v := 0) kc_67_51 rfl rfl ?_
  refine xi_iadd (pc' := 53) (v := 0) kc_67_52 rfl rfl ?_
  refine xi_istore_n (pc' := 54) (lv' := [(1, .int 0), (3, .int 0), (2, .int 1), (0, .ref 115)]) kc_67_53 rfl rfl (xm_lt ml_67 rfl) ?_
  refine xi_iinc (pc' := 57) (x := 0) (v := 1) (lv' := [(3, .int 1), (1, .int 0), (2, .int 1), (0, .ref 115)]) kc_67_54 rfl rfl rfl rfl (xm_lt ml_67 rfl) ?_
  refine xi_goto (pc' := 12) kc_67_57 rfl ?_
  refine xi_iload_n (pc' := 13) (x := 1) kc_67_12 rfl rfl ?_
  refine xi_iload_n (pc' := 14) (x := 1) kc_67_13 rfl rfl ?_
  refine xi_cmt (pc' := 60) kc_67_14 rfl rfl ?_
  refine xi_iinc (pc' := 63) (x := 1) (v := 2) (lv' := [(2, .int 2), (3, .int 1), (1, .int 0), (0, .ref 115)]) kc_67_60 rfl rfl rfl rfl (xm_lt ml_67 rfl) ?_
  refine xi_goto (pc' := 4) kc_67_63 rfl ?_
  refine xi_iload_n (pc' := 5) (x := 2) kc_67_4 rfl rfl ?_
  refine xi_bipush (pc' := 7) (v := 24) kc_67_5 rfl rfl ?_
  refine xi_cmf (pc' := 10) kc_67_7 rfl rfl ?_
  refine xi_iconst (pc' := 11) (v := 0) kc_67_10 rfl rfl ?_
  refine xi_istore_n (pc' := 12) (lv' := [(3, .int 0), (2, .int 2), (1, .int 0), (0, .ref 115)]) kc_67_11 rfl rfl (xm_lt ml_67 rfl) ?_
  refine xi_iload_n (pc' := 13) (x := 0) kc_67_12 rfl rfl ?_
  refine xi_iload_n (pc' := 14) (x := 2) kc_67_13 rfl rfl ?_
  refine xi_cmf (pc' := 17) kc_67_14 rfl rfl ?_
  refine xi_iload_n (pc' := 18) (x := 0) kc_67_17 rfl rfl ?_
  refine xi_aload_n (pc' := 19) (x := 115) kc_67_18 rfl rfl ?_
  refine xi_getfield (pc' := 22) (v := .ref 158) kc_67_19 rfl rfl rfl e115 rfl ?_
  refine xi_iload_n (pc' := 23) (x := 2) kc_67_22 rfl rfl ?_
  refine xi_iaload (pc' := 24) (v := 2) kc_67_23 rfl e158 (by decide) rfl (xi_in (n := 24) (by decide) (by decide)) rfl ?_
  refine xi_iconst (pc' := 25) (v := 1) kc_67_24 rfl rfl ?_
  refine xi_cmt (pc' := 51) kc_67_25 rfl rfl ?_
  refine xi_iconst (pc' := 52) (v := 0) kc_67_51 rfl rfl ?_
  refine xi_iadd (pc' := 53) (v := 0) kc_67_52 rfl rfl ?_
  refine xi_istore_n (pc' := 54) (lv' := [(1, .int 0), (3, .int 0), (2, .int 2), (0, .ref 115)]) kc_67_53 rfl rfl (xm_lt ml_67 rfl) ?_
  refine xi_iinc (pc' := 57) (x := 0) (v := 1) (lv' := [(3, .int 1), (1, .int 0), (2, .int 2), (0, .ref 115)]) kc_67_54 rfl rfl rfl rfl (xm_lt ml_67 rfl) ?_
  refine xi_goto (pc' := 12) kc_67_57 rfl ?_
  refine xi_iload_n (pc' := 13) (x := 1) kc_67_12 rfl rfl ?_
  refine xi_iload_n (pc' := 14) (x := 2) kc_67_13 rfl rfl ?_
  refine xi_cmf (pc' := 17) kc_67_14 rfl rfl ?_
  refine xi_iload_n (pc' := 18) (x := 0) kc_67_17 rfl rfl ?_
  refine xi_aload_n (pc' := 19) (x := 115) kc_67_18 rfl rfl ?_
  refine xi_getfield (pc' := 22) (v := .ref 158) kc_67_19 rfl rfl rfl e115 rfl ?_
  refine xi_iload_n (pc' := 23) (x := 2) kc_67_22 rfl rfl ?_
  refine xi_iaload (pc' := 24) (v := 2) kc_67_23 rfl e158 (by decide) rfl (xi_in (n := 24) (by decide) (by decide)) rfl ?_
  refine xi_iconst (pc' := 25) (v := 1) kc_67_24 rfl rfl ?_
  refine xi_cmt (pc' := 51) kc_67_25 rfl rfl ?_
  refine xi_iconst (pc' := 52) (v := 0) kc_67_51 rfl rfl ?_
  refine xi_iadd (pc' := 53) (v := 0) kc_67_52 rfl rfl ?_
  refine xi_istore_n (pc' := 54) (lv' := [(1, .int 0), (3, .int 1), (2, .int 2), (0, .ref 115)]) kc_67_53 rfl rfl (xm_lt ml_67 rfl) ?_
  refine xi_iinc (pc' := 57) (x := 1) (v := 2) (lv' := [(3, .int 2), (1, .int 0), (2, .int 2), (0, .ref 115)]) kc_67_54 rfl rfl rfl rfl (xm_lt ml_67 rfl) ?_
  refine xi_goto (pc' := 12) kc_67_57 rfl ?_
  refine xi_iload_n (pc' := 13) (x := 2) kc_67_12 rfl rfl ?_
  refine xi_iload_n (pc' := 14) (x := 2) kc_67_13 rfl rfl ?_
  refine xi_cmt (pc' := 60) kc_67_14 rfl rfl ?_
  refine xi_iinc (pc' := 63) (x := 2) (v := 3) (lv' := [(2, .int 3), (3, .int 2), (1, .int 0), (0, .ref 115)]) kc_67_60 rfl rfl rfl rfl (xm_lt ml_67 rfl) ?_
  refine xi_goto (pc' := 4) kc_67_63 rfl ?_
  refine xi_iload_n (pc' := 5) (x := 3) kc_67_4 rfl rfl ?_
  refine xi_bipush (pc' := 7) (v := 24) kc_67_5 rfl rfl ?_
  refine xi_cmf (pc' := 10) kc_67_7 rfl rfl ?_
  refine xi_iconst (pc' := 11) (v := 0) kc_67_10 rfl rfl ?_
  refine xi_istore_n (pc' := 12) (lv' := [(3, .int 0), (2, .int 3), (1, .int 0), (0, .ref 115)]) kc_67_11 rfl rfl (xm_lt ml_67 rfl) ?_
  refine xi_iload_n (pc' := 13) (x := 0) kc_67_12 rfl rfl ?_
  refine xi_iload_n (pc' := 14) (x := 3) kc_67_13 rfl rfl ?_
  refine xi_cmf (pc' := 17) kc_67_14 rfl rfl ?_
  refine xi_iload_n (pc' := 18) (x := 0) kc_67_17 rfl rfl ?_
  refine xi_aload_n (pc' := 19) (x := 115) kc_67_18 rfl rfl ?_
  refine xi_getfield (pc' := 22) (v := .ref 158) kc_67_19 rfl rfl rfl e115 rfl ?_
  refine xi_iload_n (pc' := 23) (x := 3) kc_67_22 rfl rfl ?_
  refine xi_iaload (pc' := 24) (v := 2) kc_67_23 rfl e158 (by decide) rfl (xi_in (n := 24) (by decide) (by decide)) rfl ?_
  refine xi_iconst (pc' := 25) (v := 1) kc_67_24 rfl rfl ?_
  refine xi_cmt (pc' := 51) kc_67_25 rfl rfl ?_
  refine xi_iconst (pc' := 52) (v := 0) kc_67_51 rfl rfl ?_
  refine xi_iadd (pc' := 53) (v := 0) kc_67_52 rfl rfl ?_
  refine xi_istore_n (pc' := 54) (lv' := [(1, .int 0), (3, .int 0), (2, .int 3), (0, .ref 115)]) kc_67_53 rfl rfl (xm_lt ml_67 rfl) ?_
  refine xi_iinc (pc' := 57) (x := 0) (v := 1) (lv' := [(3, .int 1), (1, .int 0), (2, .int 3), (0, .ref 115)]) kc_67_54 rfl rfl rfl rfl (xm_lt ml_67 rfl) ?_
  refine xi_goto (pc' := 12) kc_67_57 rfl ?_
  refine xi_iload_n (pc' := 13) (x := 1) kc_67_12 rfl rfl ?_
  refine xi_iload_n (pc' := 14) (x := 3) kc_67_13 rfl rfl ?_
  refine xi_cmf (pc' := 17) kc_67_14 rfl rfl ?_
  refine xi_iload_n (pc' := 18) (x := 0) kc_67_17 rfl rfl ?_
  refine xi_aload_n (pc' := 19) (x := 115) kc_67_18 rfl rfl ?_
  refine xi_getfield (pc' := 22) (v := .ref 158) kc_67_19 rfl rfl rfl e115 rfl ?_
  refine xi_iload_n (pc' := 23) (x := 3) kc_67_22 rfl rfl ?_
  refine xi_iaload (pc' := 24) (v := 2) kc_67_23 rfl e158 (by decide) rfl (xi_in (n := 24) (by decide) (by decide)) rfl ?_
  refine xi_iconst (pc' := 25) (v := 1) kc_67_24 rfl rfl ?_
  refine xi_cmt (pc' := 51) kc_67_25 rfl rfl ?_
  refine xi_iconst (pc' := 52) (v := 0) kc_67_51 rfl rfl ?_
  refine xi_iadd (pc' := 53) (v := 0) kc_67_52 rfl rfl ?_
  refine xi_istore_n (pc' := 54) (lv' := [(1, .int 0), (3, .int 1), (2, .int 3), (0, .ref 115)]) kc_67_53 rfl rfl (xm_lt ml_67 rfl) ?_
  refine xi_iinc (pc' := 57) (x := 1) (v := 2) (lv' := [(3, .int 2), (1, .int 0), (2, .int 3), (0, .ref 115)]) kc_67_54 rfl rfl rfl rfl (xm_lt ml_67 rfl) ?_
  refine xi_goto (pc' := 12) kc_67_57 rfl ?_
  refine xi_iload_n (pc' := 13) (x := 2) kc_67_12 rfl rfl ?_
  refine xi_iload_n (pc' := 14) (x := 3) kc_67_13 rfl rfl ?_
  refine xi_cmf (pc' := 17) kc_67_14 rfl rfl ?_
  refine xi_iload_n (pc' := 18) (x := 0) kc_67_17 rfl rfl ?_
  refine xi_aload_n (pc' := 19) (x := 115) kc_67_18 rfl rfl ?_
  refine xi_getfield (pc' := 22) (v := .ref 158) kc_67_19 rfl rfl rfl e115 rfl ?_
  refine xi_iload_n (pc' := 23) (x := 3) kc_67_22 rfl rfl ?_
  refine xi_iaload (pc' := 24) (v := 2) kc_67_23 rfl e158 (by decide) rfl (xi_in (n := 24) (by decide) (by decide)) rfl ?_
  refine xi_iconst (pc' := 25) (v := 1) kc_67_24 rfl rfl ?_
  refine xi_cmt (pc' := 51) kc_67_25 rfl rfl ?_
  refine xi_iconst (pc' := 52) (v := 0) kc_67_51 rfl rfl ?_
  refine xi_iadd (pc' := 53) (v := 0) kc_67_52 rfl rfl ?_
  refine xi_istore_n (pc' := 54) (lv' := [(1, .int 0), (3, .int 2), (2, .int 3), (0, .ref 115)]) kc_67_53 rfl rfl (xm_lt ml_67 rfl) ?_
  refine xi_iinc (pc' := 57) (x := 2) (v := 3) (lv' := [(3, .int 3), (1, .int 0), (2, .int 3), (0, .ref 115)]) kc_67_54 rfl rfl rfl rfl (xm_lt ml_67 rfl) ?_
  refine xi_goto (pc' := 12) kc_67_57 rfl ?_
  refine xi_iload_n (pc' := 13) (x := 3) kc_67_12 rfl rfl ?_
  refine xi_iload_n (pc' := 14) (x := 3) kc_67_13 rfl rfl ?_
  refine xi_cmt (pc' := 60) kc_67_14 rfl rfl ?_
  refine xi_iinc (pc' := 63) (x := 3) (v := 4) (lv' := [(2, .int 4), (3, .int 3), (1, .int 0), (0, .ref 115)]) kc_67_60 rfl rfl rfl rfl (xm_lt ml_67 rfl) ?_
  refine xi_goto (pc' := 4) kc_67_63 rfl ?_
  refine xi_iload_n (pc' := 5) (x := 4) kc_67_4 rfl rfl ?_
  refine xi_bipush (pc' := 7) (v := 24) kc_67_5 rfl rfl ?_
  refine xi_cmf (pc' := 10) kc_67_7 rfl rfl ?_
  refine xi_iconst (pc' := 11) (v := 0) kc_67_10 rfl rfl ?_
  refine xi_istore_n (pc' := 12) (lv' := [(3, .int 0), (2, .int 4), (1, .int 0), (0, .ref 115)]) kc_67_11 rfl rfl (xm_lt ml_67 rfl) ?_
  refine xi_iload_n (pc' := 13) (x := 0) kc_67_12 rfl rfl ?_
  refine xi_iload_n (pc' := 14) (x := 4) kc_67_13 rfl rfl ?_
  refine xi_cmf (pc' := 17) kc_67_14 rfl rfl ?_
  refine xi_iload_n (pc' := 18) (x := 0) kc_67_17 rfl rfl ?_
  refine xi_aload_n (pc' := 19) (x := 115) kc_67_18 rfl rfl ?_
  refine xi_getfield (pc' := 22) (v := .ref 158) kc_67_19 rfl rfl rfl e115 rfl ?_
  refine xi_iload_n (pc' := 23) (x := 4) kc_67_22 rfl rfl ?_
  refine xi_iaload (pc' := 24) (v := 2) kc_67_23 rfl e158 (by decide) rfl (xi_in (n := 24) (by decide) (by decide)) rfl ?_
  refine xi_iconst (pc' := 25) (v := 1) kc_67_24 rfl rfl ?_
  refine xi_cmt (pc' := 51) kc_67_25 rfl rfl ?_
  refine xi_iconst (pc' := 52) (v := 0) kc_67_51 rfl rfl ?_
  refine xi_iadd (pc' := 53) (v := 0) kc_67_52 rfl rfl ?_
  refine xi_istore_n (pc' := 54) (lv' := [(1, .int 0), (3, .int 0), (2, .int 4), (0, .ref 115)]) kc_67_53 rfl rfl (xm_lt ml_67 rfl) ?_
  refine xi_iinc (pc' := 57) (x := 0) (v := 1) (lv' := [(3, .int 1), (1, .int 0), (2, .int 4), (0, .ref 115)]) kc_67_54 rfl rfl rfl rfl (xm_lt ml_67 rfl) ?_
  refine xi_goto (pc' := 12) kc_67_57 rfl ?_
  refine xi_iload_n (pc' := 13) (x := 1) kc_67_12 rfl rfl ?_
  refine xi_iload_n (pc' := 14) (x := 4) kc_67_13 rfl rfl ?_
  refine xi_cmf (pc' := 17) kc_67_14 rfl rfl ?_
  refine xi_iload_n (pc' := 18) (x := 0) kc_67_17 rfl rfl ?_
  refine xi_aload_n (pc' := 19) (x := 115) kc_67_18 rfl rfl ?_
  refine xi_getfield (pc' := 22) (v := .ref 158) kc_67_19 rfl rfl rfl e115 rfl ?_
  refine xi_iload_n (pc' := 23) (x := 4) kc_67_22 rfl rfl ?_
  refine xi_iaload (pc' := 24) (v := 2) kc_67_23 rfl e158 (by decide) rfl (xi_in (n := 24) (by decide) (by decide)) rfl ?_
  refine xi_iconst (pc' := 25) (v := 1) kc_67_24 rfl rfl ?_
  refine xi_cmt (pc' := 51) kc_67_25 rfl rfl ?_
  refine xi_iconst (pc' := 52) (v := 0) kc_67_51 rfl rfl ?_
  refine xi_iadd (pc' := 53) (v := 0) kc_67_52 rfl rfl ?_
  refine xi_istore_n (pc' := 54) (lv' := [(1, .int 0), (3, .int 1), (2, .int 4), (0, .ref 115)]) kc_67_53 rfl rfl (xm_lt ml_67 rfl) ?_
  refine xi_iinc (pc' := 57) (x := 1) (v := 2) (lv' := [(3, .int 2), (1, .int 0), (2, .int 4), (0, .ref 115)]) kc_67_54 rfl rfl rfl rfl (xm_lt ml_67 rfl) ?_
  refine xi_goto (pc' := 12) kc_67_57 rfl ?_
  refine xi_iload_n (pc' := 13) (x := 2) kc_67_12 rfl rfl ?_
  refine xi_iload_n (pc' := 14) (x := 4) kc_67_13 rfl rfl ?_
  refine xi_cmf (pc' := 17) kc_67_14 rfl rfl ?_
  refine xi_iload_n (pc' := 18) (x := 0) kc_67_17 rfl rfl ?_
  refine xi_aload_n (pc' := 19) (x := 115) kc_67_18 rfl rfl ?_
  refine xi_getfield (pc' := 22) (v := .ref 158) kc_67_19 rfl rfl rfl e115 rfl ?_
  refine xi_iload_n (pc' := 23) (x := 4) kc_67_22 rfl rfl ?_
  refine xi_iaload (pc' := 24) (v := 2) kc_67_23 rfl e158 (by decide) rfl (xi_in (n := 24) (by decide) (by decide)) rfl ?_
  refine xi_iconst (pc' := 25) (v := 1) kc_67_24 rfl rfl ?_
  refine xi_cmt (pc' := 51) kc_67_25 rfl rfl ?_
  refine xi_iconst (pc' := 52) (v := 0) kc_67_51 rfl rfl ?_
  refine xi_iadd (pc' := 53) (v := 0) kc_67_52 rfl rfl ?_
  refine xi_istore_n (pc' := 54) (lv' := [(1, .int 0), (3, .int 2), (2, .int 4), (0, .ref 115)]) kc_67_53 rfl rfl (xm_lt ml_67 rfl) ?_
  refine xi_iinc (pc' := 57) (x := 2) (v := 3) (lv' := [(3, .int 3), (1, .int 0), (2, .int 4), (0, .ref 115)]) kc_67_54 rfl rfl rfl rfl (xm_lt ml_67 rfl) ?_
  refine xi_goto (pc' := 12) kc_67_57 rfl ?_
  refine xi_iload_n (pc' := 13) (x := 3) kc_67_12 rfl rfl ?_
  refine xi_iload_n (pc' := 14) (x := 4) kc_67_13 rfl rfl ?_
  refine xi_cmf (pc' := 17) kc_67_14 rfl rfl ?_
  refine xi_iload_n (pc' := 18) (x := 0) kc_67_17 rfl rfl ?_
  refine xi_aload_n (pc' := 19) (x := 115) kc_67_18 rfl rfl ?_
  refine xi_getfield (pc' := 22) (v := .ref 158) kc_67_19 rfl rfl rfl e115 rfl ?_
  refine xi_iload_n (pc' := 23) (x := 4) kc_67_22 rfl rfl ?_
  refine xi_iaload (pc' := 24) (v := 2) kc_67_23 rfl e158 (by decide) rfl (xi_in (n := 24) (by decide) (by decide)) rfl ?_
  refine xi_iconst (pc' := 25) (v := 1) kc_67_24 rfl rfl ?_
  refine xi_cmt (pc' := 51) kc_67_25 rfl rfl ?_
  refine xi_iconst (pc' := 52) (v := 0) kc_67_51 rfl rfl ?_
  refine xi_iadd (pc' := 53) (v := 0) kc_67_52 rfl rfl ?_
  refine xi_istore_n (pc' := 54) (lv' := [(1, .int 0), (3, .int 3), (2, .int 4), (0, .ref 115)]) kc_67_53 rfl rfl (xm_lt ml_67 rfl) ?_
  refine xi_iinc (pc' := 57) (x := 3) (v := 4) (lv' := [(3, .int 4), (1, .int 0), (2, .int 4), (0, .ref 115)]) kc_67_54 rfl rfl rfl rfl (xm_lt ml_67 rfl) ?_
  refine xi_goto (pc' := 12) kc_67_57 rfl ?_
  refine xi_iload_n (pc' := 13) (x := 4) kc_67_12 rfl rfl ?_
  refine xi_iload_n (pc' := 14) (x := 4) kc_67_13 rfl rfl ?_
  refine xi_cmt (pc' := 60) kc_67_14 rfl rfl ?_
  refine xi_iinc (pc' := 63) (x := 4) (v := 5) (lv' := [(2, .int 5), (3, .int 4), (1, .int 0), (0, .ref 115)]) kc_67_60 rfl rfl rfl rfl (xm_lt ml_67 rfl) ?_
  refine xi_goto (pc' := 4) kc_67_63 rfl ?_
  refine xi_iload_n (pc' := 5) (x := 5) kc_67_4 rfl rfl ?_
  refine xi_bipush (pc' := 7) (v := 24) kc_67_5 rfl rfl ?_
  refine xi_cmf (pc' := 10) kc_67_7 rfl rfl ?_
  refine xi_iconst (pc' := 11) (v := 0) kc_67_10 rfl rfl ?_
  refine xi_istore_n (pc' := 12) (lv' := [(3, .int 0), (2, .int 5), (1, .int 0), (0, .ref 115)]) kc_67_11 rfl rfl (xm_lt ml_67 rfl) ?_
  refine xi_iload_n (pc' := 13) (x := 0) kc_67_12 rfl rfl ?_
  refine xi_iload_n (pc' := 14) (x := 5) kc_67_13 rfl rfl ?_
  refine xi_cmf (pc' := 17) kc_67_14 rfl rfl ?_
  refine xi_iload_n (pc' := 18) (x := 0) kc_67_17 rfl rfl ?_
  refine xi_aload_n (pc' := 19) (x := 115) kc_67_18 rfl rfl ?_
  refine xi_getfield (pc' := 22) (v := .ref 158) kc_67_19 rfl rfl rfl e115 rfl ?_
  refine xi_iload_n (pc' := 23) (x := 5) kc_67_22 rfl rfl ?_
  refine xi_iaload (pc' := 24) (v := 2) kc_67_23 rfl e158 (by decide) rfl (xi_in (n := 24) (by decide) (by decide)) rfl ?_
  refine xi_iconst (pc' := 25) (v := 1) kc_67_24 rfl rfl ?_
  refine xi_cmt (pc' := 51) kc_67_25 rfl rfl ?_
  refine xi_iconst (pc' := 52) (v := 0) kc_67_51 rfl rfl ?_
  refine xi_iadd (pc' := 53) (v := 0) kc_67_52 rfl rfl ?_
  refine xi_istore_n (pc' := 54) (lv' := [(1, .int 0), (3, .int 0), (2, .int 5), (0, .ref 115)]) kc_67_53 rfl rfl (xm_lt ml_67 rfl) ?_
  refine xi_iinc (pc' := 57) (x := 0) (v := 1) (lv' := [(3, .int 1), (1, .int 0), (2, .int 5), (0, .ref 115)]) kc_67_54 rfl rfl rfl rfl (xm_lt ml_67 rfl) ?_
  refine xi_goto (pc' := 12) kc_67_57 rfl ?_
  refine xi_iload_n (pc' := 13) (x := 1) kc_67_12 rfl rfl ?_
  refine xi_iload_n (pc' := 14) (x := 5) kc_67_13 rfl rfl ?_
  refine xi_cmf (pc' := 17) kc_67_14 rfl rfl ?_
  refine xi_iload_n (pc' := 18) (x := 0) kc_67_17 rfl rfl ?_
  refine xi_aload_n (pc' := 19) (x := 115) kc_67_18 rfl rfl ?_
  refine xi_getfield (pc' := 22) (v := .ref 158) kc_67_19 rfl rfl rfl e115 rfl ?_
  refine xi_iload_n (pc' := 23) (x := 5) kc_67_22 rfl rfl ?_
  refine xi_iaload (pc' := 24) (v := 2) kc_67_23 rfl e158 (by decide) rfl (xi_in (n := 24) (by decide) (by decide)) rfl ?_
  refine xi_iconst (pc' := 25) (v := 1) kc_67_24 rfl rfl ?_
  refine xi_cmt (pc' := 51) kc_67_25 rfl rfl ?_
  refine xi_iconst (pc' := 52) (v := 0) kc_67_51 rfl rfl ?_
  refine xi_iadd (pc' := 53) (v := 0) kc_67_52 rfl rfl ?_
  refine xi_istore_n (pc' := 54) (lv' := [(1, .int 0), (3, .int 1), (2, .int 5), (0, .ref 115)]) kc_67_53 rfl rfl (xm_lt ml_67 rfl) ?_
  refine xi_iinc (pc' := 57) (x := 1) (v := 2) (lv' := [(3, .int 2), (1, .int 0), (2, .int 5), (0, .ref 115)]) kc_67_54 rfl rfl rfl rfl (xm_lt ml_67 rfl) ?_
  refine xi_goto (pc' := 12) kc_67_57 rfl ?_
  refine xi_iload_n (pc' := 13) (x := 2) kc_67_12 rfl rfl ?_
  refine xi_iload_n (pc' := 14) (x := 5) kc_67_13 rfl rfl ?_
  refine xi_cmf (pc' := 17) kc_67_14 rfl rfl ?_
  refine xi_iload_n (pc' := 18) (x := 0) kc_67_17 rfl rfl ?_
  refine xi_aload_n (pc' := 19) (x := 115) kc_67_18 rfl rfl ?_
  refine xi_getfield (pc' := 22) (v := .ref 158) kc_67_19 rfl rfl rfl e115 rfl ?_
  refine xi_iload_n (pc' := 23) (x := 5) kc_67_22 rfl rfl ?_
  refine xi_iaload (pc' := 24) (v := 2) kc_67_23 rfl e158 (by decide) rfl (xi_in (n := 24) (by decide) (by decide)) rfl ?_
  refine xi_iconst (pc' := 25) (v := 1) kc_67_24 rfl rfl ?_
  refine xi_cmt (pc' := 51) kc_67_25 rfl rfl ?_
  refine xi_iconst (pc' := 52) (v := 0) kc_67_51 rfl rfl ?_
  refine xi_iadd (pc' := 53) (v := 0) kc_67_52 rfl rfl ?_
  refine xi_istore_n (pc' := 54) (lv' := [(1, .int 0), (3, .int 2), (2, .int 5), (0, .ref 115)]) kc_67_53 rfl rfl (xm_lt ml_67 rfl) ?_
  refine xi_iinc (pc' := 57) (x := 2) (v := 3) (lv' := [(3, .int 3), (1, .int 0), (2, .int 5), (0, .ref 115)]) kc_67_54 rfl rfl rfl rfl (xm_lt ml_67 rfl) ?_
  refine xi_goto (pc' := 12) kc_67_57 rfl ?_
  refine xi_iload_n (pc' := 13) (x := 3) kc_67_12 rfl rfl ?_
  refine xi_iload_n (pc' := 14) (x := 5) kc_67_13 rfl rfl ?_
  refine xi_cmf (pc' := 17) kc_67_14 rfl rfl ?_
  refine xi_iload_n (pc' := 18) (x := 0) kc_67_17 rfl rfl ?_
  refine xi_aload_n (pc' := 19) (x := 115) kc_67_18 rfl rfl ?_
  refine xi_getfield (pc' := 22) (v := .ref 158) kc_67_19 rfl rfl rfl e115 rfl ?_
  refine xi_iload_n (pc' := 23) (x := 5) kc_67_22 rfl rfl ?_
  refine xi_iaload (pc' := 24) (v := 2) kc_67_23 rfl e158 (by decide) rfl (xi_in (n := 24) (by decide) (by decide)) rfl ?_
  refine xi_iconst (pc' := 25) (v := 1) kc_67_24 rfl rfl ?_
  refine xi_cmt (pc' := 51) kc_67_25 rfl rfl ?_
  refine xi_iconst (pc' := 52) (v := 0) kc_67_51 rfl rfl ?_
  refine xi_iadd (pc' := 53) (v := 0) kc_67_52 rfl rfl ?_
  refine xi_istore_n (pc' := 54) (lv' := [(1, .int 0), (3, .int 3), (2, .int 5), (0, .ref 115)]) kc_67_53 rfl rfl (xm_lt ml_67 rfl) ?_
  refine xi_iinc (pc' := 57) (x := 3) (v := 4) (lv' := [(3, .int 4), (1, .int 0), (2, .int 5), (0, .ref 115)]) kc_67_54 rfl rfl rfl rfl (xm_lt ml_67 rfl) ?_
  refine xi_goto (pc' := 12) kc_67_57 rfl ?_
  refine xi_iload_n (pc' := 13) (x := 4) kc_67_12 rfl rfl ?_
  refine xi_iload_n (pc' := 14) (x := 5) kc_67_13 rfl rfl ?_
  refine xi_cmf (pc' := 17) kc_67_14 rfl rfl ?_
  refine xi_iload_n (pc' := 18) (x := 0) kc_67_17 rfl rfl ?_
  refine xi_aload_n (pc' := 19) (x := 115) kc_67_18 rfl rfl ?_
  refine xi_getfield (pc' := 22) (v := .ref 158) kc_67_19 rfl rfl rfl e115 rfl ?_
  refine xi_iload_n (pc' := 23) (x := 5) kc_67_22 rfl rfl ?_
  refine xi_iaload (pc' := 24) (v := 2) kc_67_23 rfl e158 (by decide) rfl (xi_in (n := 24) (by decide) (by decide)) rfl ?_
  refine xi_iconst (pc' := 25) (v := 1) kc_67_24 rfl rfl ?_
  refine xi_cmt (pc' := 51) kc_67_25 rfl rfl ?_
  refine xi_iconst (pc' := 52) (v := 0) kc_67_51 rfl rfl ?_
  refine xi_iadd (pc' := 53) (v := 0) kc_67_52 rfl rfl ?_
  refine xi_istore_n (pc' := 54) (lv' := [(1, .int 0), (3, .int 4), (2, .int 5), (0, .ref 115)]) kc_67_53 rfl rfl (xm_lt ml_67 rfl) ?_
  refine xi_iinc (pc' := 57) (x := 4) (v := 5) (lv' := [(3, .int 5), (1, .int 0), (2, .int 5), (0, .ref 115)]) kc_67_54 rfl rfl rfl rfl (xm_lt ml_67 rfl) ?_
  refine xi_goto (pc' := 12) kc_67_57 rfl ?_
  refine xi_iload_n (pc' := 13) (x := 5) kc_67_12 rfl rfl ?_
  refine xi_iload_n (pc' := 14) (x := 5) kc_67_13 rfl rfl ?_
  refine xi_cmt (pc' := 60) kc_67_14 rfl rfl ?_
  refine xi_iinc (pc' := 63) (x := 5) (v := 6) (lv' := [(2, .int 6), (3, .int 5), (1, .int 0), (0, .ref 115)]) kc_67_60 rfl rfl rfl rfl (xm_lt ml_67 rfl) ?_
  refine xi_goto (pc' := 4) kc_67_63 rfl ?_
  refine xi_iload_n (pc' := 5) (x := 6) kc_67_4 rfl rfl ?_
  refine xi_bipush (pc' := 7) (v := 24) kc_67_5 rfl rfl ?_
  refine xi_cmf (pc' := 10) kc_67_7 rfl rfl ?_
  refine xi_iconst (pc' := 11) (v := 0) kc_67_10 rfl rfl ?_
  refine xi_istore_n (pc' := 12) (lv' := [(3, .int 0), (2, .int 6), (1, .int 0), (0, .ref 115)]) kc_67_11 rfl rfl (xm_lt ml_67 rfl) ?_
  refine xi_iload_n (pc' := 13) (x := 0) kc_67_12 rfl rfl ?_
  refine xi_iload_n (pc' := 14) (x := 6) kc_67_13 rfl rfl ?_
  refine xi_cmf (pc' := 17) kc_67_14 rfl rfl ?_
  refine xi_iload_n (pc' := 18) (x := 0) kc_67_17 rfl rfl ?_
  refine xi_aload_n (pc' := 19) (x := 115) kc_67_18 rfl rfl ?_
  refine xi_getfield (pc' := 22) (v := .ref 158) kc_67_19 rfl rfl rfl e115 rfl ?_
  refine xi_iload_n (pc' := 23) (x := 6) kc_67_22 rfl rfl ?_
  refine xi_iaload (pc' := 24) (v := 2) kc_67_23 rfl e158 (by decide) rfl (xi_in (n := 24) (by decide) (by decide)) rfl ?_
  refine xi_iconst (pc' := 25) (v := 1) kc_67_24 rfl rfl ?_
  refine xi_cmt (pc' := 51) kc_67_25 rfl rfl ?_
  refine xi_iconst (pc' := 52) (v := 0) kc_67_51 rfl rfl ?_
  refine xi_iadd (pc' := 53) (v := 0) kc_67_52 rfl rfl ?_
  refine xi_istore_n (pc' := 54) (lv' := [(1, .int 0), (3, .int 0), (2, .int 6), (0, .ref 115)]) kc_67_53 rfl rfl (xm_lt ml_67 rfl) ?_
  refine xi_iinc (pc' := 57) (x := 0) (v := 1) (lv' := [(3, .int 1), (1, .int 0), (2, .int 6), (0, .ref 115)]) kc_67_54 rfl rfl rfl rfl (xm_lt ml_67 rfl) ?_
  refine xi_goto (pc' := 12) kc_67_57 rfl ?_
  refine xi_iload_n (pc' := 13) (x := 1) kc_67_12 rfl rfl ?_
  refine xi_iload_n (pc' := 14) (x := 6) kc_67_13 rfl rfl ?_
  refine xi_cmf (pc' := 17) kc_67_14 rfl rfl ?_
  refine xi_iload_n (pc' := 18) (x := 0) kc_67_17 rfl rfl ?_
  refine xi_aload_n (pc' := 19) (x := 115) kc_67_18 rfl rfl ?_
  refine xi_getfield (pc' := 22) (v := .ref 158) kc_67_19 rfl rfl rfl e115 rfl ?_
  refine xi_iload_n (pc' := 23) (x := 6) kc_67_22 rfl rfl ?_
  refine xi_iaload (pc' := 24) (v := 2) kc_67_23 rfl e158 (by decide) rfl (xi_in (n := 24) (by decide) (by decide)) rfl ?_
  refine xi_iconst (pc' := 25) (v := 1) kc_67_24 rfl rfl ?_
  refine xi_cmt (pc' := 51) kc_67_25 rfl rfl ?_
  refine xi_iconst (pc' := 52) (v := 0) kc_67_51 rfl rfl ?_
  refine xi_iadd (pc' := 53) (v := 0) kc_67_52 rfl rfl ?_
  refine xi_istore_n (pc' := 54) (lv' := [(1, .int 0), (3, .int 1), (2, .int 6), (0, .ref 115)]) kc_67_53 rfl rfl (xm_lt ml_67 rfl) ?_
  refine xi_iinc (pc' := 57) (x := 1) (v := 2) (lv' := [(3, .int 2), (1, .int 0), (2, .int 6), (0, .ref 115)]) kc_67_54 rfl rfl rfl rfl (xm_lt ml_67 rfl) ?_
  refine xi_goto (pc' := 12) kc_67_57 rfl ?_
  refine xi_iload_n (pc' := 13) (x := 2) kc_67_12 rfl rfl ?_
  refine xi_iload_n (pc' := 14) (x := 6) kc_67_13 rfl rfl ?_
  refine xi_cmf (pc' := 17) kc_67_14 rfl rfl ?_
  refine xi_iload_n (pc' := 18) (x := 0) kc_67_17 rfl rfl ?_
  refine xi_aload_n (pc' := 19) (x := 115) kc_67_18 rfl rfl ?_
  refine xi_getfield (pc' := 22) (v := .ref 158) kc_67_19 rfl rfl rfl e115 rfl ?_
  refine xi_iload_n (pc' := 23) (x := 6) kc_67_22 rfl rfl ?_
  refine xi_iaload (pc' := 24) (v := 2) kc_67_23 rfl e158 (by decide) rfl (xi_in (n := 24) (by decide) (by decide)) rfl ?_
  refine xi_iconst (pc' := 25) (v := 1) kc_67_24 rfl rfl ?_
  refine xi_cmt (pc' := 51) kc_67_25 rfl rfl ?_
  refine xi_iconst (pc' := 52) (v := 0) kc_67_51 rfl rfl ?_
  refine xi_iadd (pc' := 53) (v := 0) kc_67_52 rfl rfl ?_
  refine xi_istore_n (pc' := 54) (lv' := [(1, .int 0), (3, .int 2), (2, .int 6), (0, .ref 115)]) kc_67_53 rfl rfl (xm_lt ml_67 rfl) ?_
  refine xi_iinc (pc' := 57) (x := 2) (v := 3) (lv' := [(3, .int 3), (1, .int 0), (2, .int 6), (0, .ref 115)]) kc_67_54 rfl rfl rfl rfl (xm_lt ml_67 rfl) ?_
  refine xi_goto (pc' := 12) kc_67_57 rfl ?_
  refine xi_iload_n (pc' := 13) (x := 3) kc_67_12 rfl rfl ?_
  refine xi_iload_n (pc' := 14) (x := 6) kc_67_13 rfl rfl ?_
  refine xi_cmf (pc' := 17) kc_67_14 rfl rfl ?_
  refine xi_iload_n (pc' := 18) (x := 0) kc_67_17 rfl rfl ?_
  refine xi_aload_n (pc' := 19) (x := 115) kc_67_18 rfl rfl ?_
  refine xi_getfield (pc' := 22) (v := .ref 158) kc_67_19 rfl rfl rfl e115 rfl ?_
  refine xi_iload_n (pc' := 23) (x := 6) kc_67_22 rfl rfl ?_
  refine xi_iaload (pc' := 24) (v := 2) kc_67_23 rfl e158 (by decide) rfl (xi_in (n := 24) (by decide) (by decide)) rfl ?_
  refine xi_iconst (pc' := 25) (v := 1) kc_67_24 rfl rfl ?_
  refine xi_cmt (pc' := 51) kc_67_25 rfl rfl ?_
  refine xi_iconst (pc' := 52) (v := 0) kc_67_51 rfl rfl ?_
  refine xi_iadd (pc' := 53) (v := 0) kc_67_52 rfl rfl ?_
  refine xi_istore_n (pc' := 54) (lv' := [(1, .int 0), (3, .int 3), (2, .int 6), (0, .ref 115)]) kc_67_53 rfl rfl (xm_lt ml_67 rfl) ?_
  refine xi_iinc (pc' := 57) (x := 3) (v := 4) (lv' := [(3, .int 4), (1, .int 0), (2, .int 6), (0, .ref 115)]) kc_67_54 rfl rfl rfl rfl (xm_lt ml_67 rfl) ?_
  refine xi_goto (pc' := 12) kc_67_57 rfl ?_
  refine xi_iload_n (pc' := 13) (x := 4) kc_67_12 rfl rfl ?_
  refine xi_iload_n (pc' := 14) (x := 6) kc_67_13 rfl rfl ?_
  refine xi_cmf (pc' := 17) kc_67_14 rfl rfl ?_
  refine xi_iload_n (pc' := 18) (x := 0) kc_67_17 rfl rfl ?_
  refine xi_aload_n (pc' := 19) (x := 115) kc_67_18 rfl rfl ?_
  refine xi_getfield (pc' := 22) (v := .ref 158) kc_67_19 rfl rfl rfl e115 rfl ?_
  refine xi_iload_n (pc' := 23) (x := 6) kc_67_22 rfl rfl ?_
  refine xi_iaload (pc' := 24) (v := 2) kc_67_23 rfl e158 (by decide) rfl (xi_in (n := 24) (by decide) (by decide)) rfl ?_
  refine xi_iconst (pc' := 25) (v := 1) kc_67_24 rfl rfl ?_
  refine xi_cmt (pc' := 51) kc_67_25 rfl rfl ?_
  refine xi_iconst (pc' := 52) (v := 0) kc_67_51 rfl rfl ?_
  refine xi_iadd (pc' := 53) (v := 0) kc_67_52 rfl rfl ?_
  refine xi_istore_n (pc' := 54) (lv' := [(1, .int 0), (3, .int 4), (2, .int 6), (0, .ref 115)]) kc_67_53 rfl rfl (xm_lt ml_67 rfl) ?_
  refine xi_iinc (pc' := 57) (x := 4) (v := 5) (lv' := [(3, .int 5), (1, .int 0), (2, .int 6), (0, .ref 115)]) kc_67_54 rfl rfl rfl rfl (xm_lt ml_67 rfl) ?_
  refine xi_goto (pc' := 12) kc_67_57 rfl ?_
  refine xi_iload_n (pc' := 13) (x := 5) kc_67_12 rfl rfl ?_
  refine xi_iload_n (pc' := 14) (x := 6) kc_67_13 rfl rfl ?_
  refine xi_cmf (pc' := 17) kc_67_14 rfl rfl ?_
  refine xi_iload_n (pc' := 18) (x := 0) kc_67_17 rfl rfl ?_
  refine xi_aload_n (pc' := 19) (x := 115) kc_67_18 rfl rfl ?_
  refine xi_getfield (pc' := 22) (v := .ref 158) kc_67_19 rfl rfl rfl e115 rfl ?_
  refine xi_iload_n (pc' := 23) (x := 6) kc_67_22 rfl rfl ?_
  refine xi_iaload (pc' := 24) (v := 2) kc_67_23 rfl e158 (by decide) rfl (xi_in (n := 24) (by decide) (by decide)) rfl ?_
  refine xi_iconst (pc' := 25) (v := 1) kc_67_24 rfl rfl ?_
  refine xi_cmt (pc' := 51) kc_67_25 rfl rfl ?_
  refine xi_iconst (pc' := 52) (v := 0) kc_67_51 rfl rfl ?_
  refine xi_iadd (pc' := 53) (v := 0) kc_67_52 rfl rfl ?_
  refine xi_istore_n (pc' := 54) (lv' := [(1, .int 0), (3, .int 5), (2, .int 6), (0, .ref 115)]) kc_67_53 rfl rfl (xm_lt ml_67 rfl) ?_
  refine xi_iinc (pc' := 57) (x := 5) (v := 6) (lv' := [(3, .int 6), (1, .int 0), (2, .int 6), (0, .ref 115)]) kc_67_54 rfl rfl rfl rfl (xm_lt ml_67 rfl) ?_
  refine xi_goto (pc' := 12) kc_67_57 rfl ?_
  refine xi_iload_n (pc' := 13) (x := 6) kc_67_12 rfl rfl ?_
  refine xi_iload_n (pc' := 14) (x := 6) kc_67_13 rfl rfl ?_
  refine xi_cmt (pc' := 60) kc_67_14 rfl rfl ?_
  refine xi_iinc (pc' := 63) (x := 6) (v := 7) (lv' := [(2, .int 7), (3, .int 6), (1, .int 0), (0, .ref 115)]) kc_67_60 rfl rfl rfl rfl (xm_lt ml_67 rfl) ?_
  refine xi_goto (pc' := 4) kc_67_63 rfl ?_
  refine xi_iload_n (pc' := 5) (x := 7) kc_67_4 rfl rfl ?_
  refine xi_bipush (pc' := 7) (v := 24) kc_67_5 rfl rfl ?_
  refine xi_cmf (pc' := 10) kc_67_7 rfl rfl ?_
  refine xi_iconst (pc' := 11) (v := 0) kc_67_10 rfl rfl ?_
  refine xi_istore_n (pc' := 12) (lv' := [(3, .int 0), (2, .int 7), (1, .int 0), (0, .ref 115)]) kc_67_11 rfl rfl (xm_lt ml_67 rfl) ?_
  refine xi_iload_n (pc' := 13) (x := 0) kc_67_12 rfl rfl ?_
  refine xi_iload_n (pc' := 14) (x := 7) kc_67_13 rfl rfl ?_
  refine xi_cmf (pc' := 17) kc_67_14 rfl rfl ?_
  refine xi_iload_n (pc' := 18) (x := 0) kc_67_17 rfl rfl ?_
  refine xi_aload_n (pc' := 19) (x := 115) kc_67_18 rfl rfl ?_
  refine xi_getfield (pc' := 22) (v := .ref 158) kc_67_19 rfl rfl rfl e115 rfl ?_
  refine xi_iload_n (pc' := 23) (x := 7) kc_67_22 rfl rfl ?_
  refine xi_iaload (pc' := 24) (v := 2) kc_67_23 rfl e158 (by decide) rfl (xi_in (n := 24) (by decide) (by decide)) rfl ?_
  refine xi_iconst (pc' := 25) (v := 1) kc_67_24 rfl rfl ?_
  refine xi_cmt (pc' := 51) kc_67_25 rfl rfl ?_
  refine xi_iconst (pc' := 52) (v := 0) kc_67_51 rfl rfl ?_
  refine xi_iadd (pc' := 53) (v := 0) kc_67_52 rfl rfl ?_
  refine xi_istore_n (pc' := 54) (lv' := [(1, .int 0), (3, .int 0), (2, .int 7), (0, .ref 115)]) kc_67_53 rfl rfl (xm_lt ml_67 rfl) ?_
  refine xi_iinc (pc' := 57) (x := 0) (v := 1) (lv' := [(3, .int 1), (1, .int 0), (2, .int 7), (0, .ref 115)]) kc_67_54 rfl rfl rfl rfl (xm_lt ml_67 rfl) ?_
  refine xi_goto (pc' := 12) kc_67_57 rfl ?_
  refine xi_iload_n (pc' := 13) (x := 1) kc_67_12 rfl rfl ?_
  refine xi_iload_n (pc' := 14) (x := 7) kc_67_13 rfl rfl ?_
  refine xi_cmf (pc' := 17) kc_67_14 rfl rfl ?_
  refine xi_iload_n (pc' := 18) (x := 0) kc_67_17 rfl rfl ?_
  refine xi_aload_n (pc' := 19) (x := 115) kc_67_18 rfl rfl ?_
  refine xi_getfield (pc' := 22) (v := .ref 158) kc_67_19 rfl rfl rfl e115 rfl ?_
  refine xi_iload_n (pc' := 23) (x := 7) kc_67_22 rfl rfl ?_
  refine xi_iaload (pc' := 24) (v := 2) kc_67_23 rfl e158 (by decide) rfl (xi_in (n := 24) (by decide) (by decide)) rfl ?_
  refine xi_iconst (pc' := 25) (v := 1) kc_67_24 rfl rfl ?_
  refine xi_cmt (pc' := 51) kc_67_25 rfl rfl ?_
  refine xi_iconst (pc' := 52) (v := 0) kc_67_51 rfl rfl ?_
  refine xi_iadd (pc' := 53) (v := 0) kc_67_52 rfl rfl ?_
  refine xi_istore_n (pc' := 54) (lv' := [(1, .int 0), (3, .int 1), (2, .int 7), (0, .ref 115)]) kc_67_53 rfl rfl (xm_lt ml_67 rfl) ?_
  refine xi_iinc (pc' := 57) (x := 1) (v := 2) (lv' := [(3, .int 2), (1, .int 0), (2, .int 7), (0, .ref 115)]) kc_67_54 rfl rfl rfl rfl (xm_lt ml_67 rfl) ?_
  refine xi_goto (pc' := 12) kc_67_57 rfl ?_
  refine xi_iload_n (pc' := 13) (x := 2) kc_67_12 rfl rfl ?_
  refine xi_iload_n (pc' := 14) (x := 7) kc_67_13 rfl rfl ?_
  refine xi_cmf (pc' := 17) kc_67_14 rfl rfl ?_
  refine xi_iload_n (pc' := 18) (x := 0) kc_67_17 rfl rfl ?_
  refine xi_aload_n (pc' := 19) (x := 115) kc_67_18 rfl rfl ?_
  refine xi_getfield (pc' := 22) (v := .ref 158) kc_67_19 rfl rfl rfl e115 rfl ?_
  refine xi_iload_n (pc' := 23) (x := 7) kc_67_22 rfl rfl ?_
  refine xi_iaload (pc' := 24) (v := 2) kc_67_23 rfl e158 (by decide) rfl (xi_in (n := 24) (by decide) (by decide)) rfl ?_
  refine xi_iconst (pc' := 25) (v := 1) kc_67_24 rfl rfl ?_
  refine xi_cmt (pc' := 51) kc_67_25 rfl rfl ?_
  refine xi_iconst (pc' := 52) (v := 0) kc_67_51 rfl rfl ?_
  refine xi_iadd (pc' := 53) (v := 0) kc_67_52 rfl rfl ?_
  refine xi_istore_n (pc' := 54) (lv' := [(1, .int 0), (3, .int 2), (2, .int 7), (0, .ref 115)]) kc_67_53 rfl rfl (xm_lt ml_67 rfl) ?_
  refine xi_iinc (pc' := 57) (x := 2) (v := 3) (lv' := [(3, .int 3), (1, .int 0), (2, .int 7), (0, .ref 115)]) kc_67_54 rfl rfl rfl rfl (xm_lt ml_67 rfl) ?_
  refine xi_goto (pc' := 12) kc_67_57 rfl ?_
  refine xi_iload_n (pc' := 13) (x := 3) kc_67_12 rfl rfl ?_
  refine xi_iload_n (pc' := 14) (x := 7) kc_67_13 rfl rfl ?_
  refine xi_cmf (pc' := 17) kc_67_14 rfl rfl ?_
  refine xi_iload_n (pc' := 18) (x := 0) kc_67_17 rfl rfl ?_
  refine xi_aload_n (pc' := 19) (x := 115) kc_67_18 rfl rfl ?_
  refine xi_getfield (pc' := 22) (v := .ref 158) kc_67_19 rfl rfl rfl e115 rfl ?_
  refine xi_iload_n (pc' := 23) (x := 7) kc_67_22 rfl rfl ?_
  refine xi_iaload (pc' := 24) (v := 2) kc_67_23 rfl e158 (by decide) rfl (xi_in (n := 24) (by decide) (by decide)) rfl ?_
  refine xi_iconst (pc' := 25) (v := 1) kc_67_24 rfl rfl ?_
  refine xi_cmt (pc' := 51) kc_67_25 rfl rfl ?_
  refine xi_iconst (pc' := 52) (v := 0) kc_67_51 rfl rfl ?_
  refine xi_iadd (pc' := 53) (v := 0) kc_67_52 rfl rfl ?_
  refine xi_istore_n (pc' := 54) (lv' := [(1, .int 0), (3, .int 3), (2, .int 7), (0, .ref 115)]) kc_67_53 rfl rfl (xm_lt ml_67 rfl) ?_
  refine xi_iinc (pc' := 57) (x := 3) (v := 4) (lv' := [(3, .int 4), (1, .int 0), (2, .int 7), (0, .ref 115)]) kc_67_54 rfl rfl rfl rfl (xm_lt ml_67 rfl) ?_
  refine xi_goto (pc' := 12) kc_67_57 rfl ?_
  refine xi_iload_n (pc' := 13) (x := 4) kc_67_12 rfl rfl ?_
  refine xi_iload_n (pc' := 14) (x := 7) kc_67_13 rfl rfl ?_
  refine xi_cmf (pc' := 17) kc_67_14 rfl rfl ?_
  refine xi_iload_n (pc' := 18) (x := 0) kc_67_17 rfl rfl ?_
  refine xi_aload_n (pc' := 19) (x := 115) kc_67_18 rfl rfl ?_
  refine xi_getfield (pc' := 22) (v := .ref 158) kc_67_19 rfl rfl rfl e115 rfl ?_
  refine xi_iload_n (pc' := 23) (x := 7) kc_67_22 rfl rfl ?_
  refine xi_iaload (pc' := 24) (v := 2) kc_67_23 rfl e158 (by decide) rfl (xi_in (n := 24) (by decide) (by decide)) rfl ?_
  refine xi_iconst (pc' := 25) (v := 1) kc_67_24 rfl rfl ?_
  refine xi_cmt (pc' := 51) kc_67_25 rfl rfl ?_
  refine xi_iconst (pc' := 52) (v := 0) kc_67_51 rfl rfl ?_
  refine xi_iadd (pc' := 53) (v := 0) kc_67_52 rfl rfl ?_
  refine xi_istore_n (pc' := 54) (lv' := [(1, .int 0), (3, .int 4), (2, .int 7), (0, .ref 115)]) kc_67_53 rfl rfl (xm_lt ml_67 rfl) ?_
  refine xi_iinc (pc' := 57) (x := 4) (v := 5) (lv' := [(3, .int 5), (1, .int 0), (2, .int 7), (0, .ref 115)]) kc_67_54 rfl rfl rfl rfl (xm_lt ml_67 rfl) ?_
  refine xi_goto (pc' := 12) kc_67_57 rfl ?_
  refine xi_iload_n (pc' := 13) (x := 5) kc_67_12 rfl rfl ?_
  refine xi_iload_n (pc' := 14) (x := 7) kc_67_13 rfl rfl ?_
  refine xi_cmf (pc' := 17) kc_67_14 rfl rfl ?_
  refine xi_iload_n (pc' := 18) (x := 0) kc_67_17 rfl rfl ?_
  refine xi_aload_n (pc' := 19) (x := 115) kc_67_18 rfl rfl ?_
  refine xi_getfield (pc' := 22) (v := .ref 158) kc_67_19 rfl rfl rfl e115 rfl ?_
  refine xi_iload_n (pc' := 23) (x := 7) kc_67_22 rfl rfl ?_
  refine xi_iaload (pc' := 24) (v := 2) kc_67_23 rfl e158 (by decide) rfl (xi_in (n := 24) (by decide) (by decide)) rfl ?_
  refine xi_iconst (pc' := 25) (v := 1) kc_67_24 rfl rfl ?_
  refine xi_cmt (pc' := 51) kc_67_25 rfl rfl ?_
  refine xi_iconst (pc' := 52) (v := 0) kc_67_51 rfl rfl ?_
  refine xi_iadd (pc' := 53) (v := 0) kc_67_52 rfl rfl ?_
  refine xi_istore_n (pc' := 54) (lv' := [(1, .int 0), (3, .int 5), (2, .int 7), (0, .ref 115)]) kc_67_53 rfl rfl (xm_lt ml_67 rfl) ?_
  refine xi_iinc (pc' := 57) (x := 5) (v := 6) (lv' := [(3, .int 6), (1, .int 0), (2, .int 7), (0, .ref 115)]) kc_67_54 rfl rfl rfl rfl (xm_lt ml_67 rfl) ?_
  refine xi_goto (pc' := 12) kc_67_57 rfl ?_
  refine xi_iload_n (pc' := 13) (x := 6) kc_67_12 rfl rfl ?_
  refine xi_iload_n (pc' := 14) (x := 7) kc_67_13 rfl rfl ?_
  refine xi_cmf (pc' := 17) kc_67_14 rfl rfl ?_
  refine xi_iload_n (pc' := 18) (x := 0) kc_67_17 rfl rfl ?_
  refine xi_aload_n (pc' := 19) (x := 115) kc_67_18 rfl rfl ?_
  refine xi_getfield (pc' := 22) (v := .ref 158) kc_67_19 rfl rfl rfl e115 rfl ?_
  refine xi_iload_n (pc' := 23) (x := 7) kc_67_22 rfl rfl ?_
  refine xi_iaload (pc' := 24) (v := 2) kc_67_23 rfl e158 (by decide) rfl (xi_in (n := 24) (by decide) (by decide)) rfl ?_
  refine xi_iconst (pc' := 25) (v := 1) kc_67_24 rfl rfl ?_
  refine xi_cmt (pc' := 51) kc_67_25 rfl rfl ?_
  refine xi_iconst (pc' := 52) (v := 0) kc_67_51 rfl rfl ?_
  refine xi_iadd (pc' := 53) (v := 0) kc_67_52 rfl rfl ?_
  refine xi_istore_n (pc' := 54) (lv' := [(1, .int 0), (3, .int 6), (2, .int 7), (0, .ref 115)]) kc_67_53 rfl rfl (xm_lt ml_67 rfl) ?_
  refine xi_iinc (pc' := 57) (x := 6) (v := 7) (lv' := [(3, .int 7), (1, .int 0), (2, .int 7), (0, .ref 115)]) kc_67_54 rfl rfl rfl rfl (xm_lt ml_67 rfl) ?_
  refine xi_goto (pc' := 12) kc_67_57 rfl ?_
  refine xi_iload_n (pc' := 13) (x := 7) kc_67_12 rfl rfl ?_
  refine xi_iload_n (pc' := 14) (x := 7) kc_67_13 rfl rfl ?_
  refine xi_cmt (pc' := 60) kc_67_14 rfl rfl ?_
  refine xi_iinc (pc' := 63) (x := 7) (v := 8) (lv' := [(2, .int 8), (3, .int 7), (1, .int 0), (0, .ref 115)]) kc_67_60 rfl rfl rfl rfl (xm_lt ml_67 rfl) ?_
  refine xi_goto (pc' := 4) kc_67_63 rfl ?_
  refine xi_iload_n (pc' := 5) (x := 8) kc_67_4 rfl rfl ?_
  refine xi_bipush (pc' := 7) (v := 24) kc_67_5 rfl rfl ?_
  refine xi_cmf (pc' := 10) kc_67_7 rfl rfl ?_
  refine xi_iconst (pc' := 11) (v := 0) kc_67_10 rfl rfl ?_
  refine xi_istore_n (pc' := 12) (lv' := [(3, .int 0), (2, .int 8), (1, .int 0), (0, .ref 115)]) kc_67_11 rfl rfl (xm_lt ml_67 rfl) ?_
  refine xi_iload_n (pc' := 13) (x := 0) kc_67_12 rfl rfl ?_
  refine xi_iload_n (pc' := 14) (x := 8) kc_67_13 rfl rfl ?_
  refine xi_cmf (pc' := 17) kc_67_14 rfl rfl ?_
  refine xi_iload_n (pc' := 18) (x := 0) kc_67_17 rfl rfl ?_
  refine xi_aload_n (pc' := 19) (x := 115) kc_67_18 rfl rfl ?_
  refine xi_getfield (pc' := 22) (v := .ref 158) kc_67_19 rfl rfl rfl e115 rfl ?_
  refine xi_iload_n (pc' := 23) (x := 8) kc_67_22 rfl rfl ?_
  refine xi_iaload (pc' := 24) (v := 2) kc_67_23 rfl e158 (by decide) rfl (xi_in (n := 24) (by decide) (by decide)) rfl ?_
  refine xi_iconst (pc' := 25) (v := 1) kc_67_24 rfl rfl ?_
  refine xi_cmt (pc' := 51) kc_67_25 rfl rfl ?_
  refine xi_iconst (pc' := 52) (v := 0) kc_67_51 rfl rfl ?_
  refine xi_iadd (pc' := 53) (v := 0) kc_67_52 rfl rfl ?_
  refine xi_istore_n (pc' := 54) (lv' := [(1, .int 0), (3, .int 0), (2, .int 8), (0, .ref 115)]) kc_67_53 rfl rfl (xm_lt ml_67 rfl) ?_
  refine xi_iinc (pc' := 57) (x := 0) (v := 1) (lv' := [(3, .int 1), (1, .int 0), (2, .int 8), (0, .ref 115)]) kc_67_54 rfl rfl rfl rfl (xm_lt ml_67 rfl) ?_
  refine xi_goto (pc' := 12) kc_67_57 rfl ?_
  refine xi_iload_n (pc' := 13) (x := 1) kc_67_12 rfl rfl ?_
  refine xi_iload_n (pc' := 14) (x := 8) kc_67_13 rfl rfl ?_
  refine xi_cmf (pc' := 17) kc_67_14 rfl rfl ?_
  refine xi_iload_n (pc' := 18) (x := 0) kc_67_17 rfl rfl ?_
  refine xi_aload_n (pc' := 19) (x := 115) kc_67_18 rfl rfl ?_
  refine xi_getfield (pc' := 22) (v := .ref 158) kc_67_19 rfl rfl rfl e115 rfl ?_
  refine xi_iload_n (pc' := 23) (x := 8) kc_67_22 rfl rfl ?_
  refine xi_iaload (pc' := 24) (v := 2) kc_67_23 rfl e158 (by decide) rfl (xi_in (n := 24) (by decide) (by decide)) rfl ?_
  refine xi_iconst (pc' := 25) (v := 1) kc_67_24 rfl rfl ?_
  refine xi_cmt (pc' := 51) kc_67_25 rfl rfl ?_
  refine xi_iconst (pc' := 52) (v := 0) kc_67_51 rfl rfl ?_
  refine xi_iadd (pc' := 53) (v := 0) kc_67_52 rfl rfl ?_
  refine xi_istore_n (pc' := 54) (lv' := [(1, .int 0), (3, .int 1), (2, .int 8), (0, .ref 115)]) kc_67_53 rfl rfl (xm_lt ml_67 rfl) ?_
  refine xi_iinc (pc' := 57) (x := 1) (v := 2) (lv' := [(3, .int 2), (1, .int 0), (2, .int 8), (0, .ref 115)]) kc_67_54 rfl rfl rfl rfl (xm_lt ml_67 rfl) ?_
  refine xi_goto (pc' := 12) kc_67_57 rfl ?_
  refine xi_iload_n (pc' := 13) (x := 2) kc_67_12 rfl rfl ?_
  refine xi_iload_n (pc' := 14) (x := 8) kc_67_13 rfl rfl ?_
  refine xi_cmf (pc' := 17) kc_67_14 rfl rfl ?_
  refine xi_iload_n (pc' := 18) (x := 0) kc_67_17 rfl rfl ?_
  refine xi_aload_n (pc' := 19) (x := 115) kc_67_18 rfl rfl ?_
  refine xi_getfield (pc' := 22) (v := .ref 158) kc_67_19 rfl rfl rfl e115 rfl ?_
  refine xi_iload_n (pc' := 23) (x := 8) kc_67_22 rfl rfl ?_
  refine xi_iaload (pc' := 24) (v := 2) kc_67_23 rfl e158 (by decide) rfl (xi_in (n := 24) (by decide) (by decide)) rfl ?_
  refine xi_iconst (pc' := 25) (v := 1) kc_67_24 rfl rfl ?_
  refine xi_cmt (pc' := 51) kc_67_25 rfl rfl ?_
  refine xi_iconst (pc' := 52) (v := 0) kc_67_51 rfl rfl ?_
  refine xi_iadd (pc' := 53) (v := 0) kc_67_52 rfl rfl ?_
  refine xi_istore_n (pc' := 54) (lv' := [(1, .int 0), (3, .int 2), (2, .int 8), (0, .ref 115)]) kc_67_53 rfl rfl (xm_lt ml_67 rfl) ?_
  refine xi_iinc (pc' := 57) (x := 2) (v := 3) (lv' := [(3, .int 3), (1, .int 0), (2, .int 8), (0, .ref 115)]) kc_67_54 rfl rfl rfl rfl (xm_lt ml_67 rfl) ?_
  refine xi_goto (pc' := 12) kc_67_57 rfl ?_
  refine xi_iload_n (pc' := 13) (x := 3) kc_67_12 rfl rfl ?_
  refine xi_iload_n (pc' := 14) (x := 8) kc_67_13 rfl rfl ?_
  refine xi_cmf (pc' := 17) kc_67_14 rfl rfl ?_
  refine xi_iload_n (pc' := 18) (x := 0) kc_67_17 rfl rfl ?_
  refine xi_aload_n (pc' := 19) (x := 115) kc_67_18 rfl rfl ?_
  refine xi_getfield (pc' := 22) (v := .ref 158) kc_67_19 rfl rfl rfl e115 rfl ?_
  refine xi_iload_n (pc' := 23) (x := 8) kc_67_22 rfl rfl ?_
  refine xi_iaload (pc' := 24) (v := 2) kc_67_23 rfl e158 (by decide) rfl (xi_in (n := 24) (by decide) (by decide)) rfl ?_
  refine xi_iconst (pc' := 25) (v := 1) kc_67_24 rfl rfl ?_
  refine xi_cmt (pc' := 51) kc_67_25 rfl rfl ?_
  refine xi_iconst (pc' := 52) (v := 0) kc_67_51 rfl rfl ?_
  refine xi_iadd (pc' := 53) (v := 0) kc_67_52 rfl rfl ?_
  refine xi_istore_n (pc' := 54) (lv' := [(1, .int 0), (3, .int 3), (2, .int 8), (0, .ref 115)]) kc_67_53 rfl rfl (xm_lt ml_67 rfl) ?_
  refine xi_iinc (pc' := 57) (x := 3) (v := 4) (lv' := [(3, .int 4), (1, .int 0), (2, .int 8), (0, .ref 115)]) kc_67_54 rfl rfl rfl rfl (xm_lt ml_67 rfl) ?_
  refine xi_goto (pc' := 12) kc_67_57 rfl ?_
  refine xi_iload_n (pc' := 13) (x := 4) kc_67_12 rfl rfl ?_
  refine xi_iload_n (pc' := 14) (x := 8) kc_67_13 rfl rfl ?_
  refine xi_cmf (pc' := 17) kc_67_14 rfl rfl ?_
  refine xi_iload_n (pc' := 18) (x := 0) kc_67_17 rfl rfl ?_
  refine xi_aload_n (pc' := 19) (x := 115) kc_67_18 rfl rfl ?_
  refine xi_getfield (pc' := 22) (v := .ref 158) kc_67_19 rfl rfl rfl e115 rfl ?_
  refine xi_iload_n (pc' := 23) (x := 8) kc_67_22 rfl rfl ?_
  refine xi_iaload (pc' := 24) (v := 2) kc_67_23 rfl e158 (by decide) rfl (xi_in (n := 24) (by decide) (by decide)) rfl ?_
  refine xi_iconst (pc' := 25) (v := 1) kc_67_24 rfl rfl ?_
  refine xi_cmt (pc' := 51) kc_67_25 rfl rfl ?_
  refine xi_iconst (pc' := 52) (v := 0) kc_67_51 rfl rfl ?_
  refine xi_iadd (pc' := 53) (v := 0) kc_67_52 rfl rfl ?_
  refine xi_istore_n (pc' := 54) (lv' := [(1, .int 0), (3, .int 4), (2, .int 8), (0, .ref 115)]) kc_67_53 rfl rfl (xm_lt ml_67 rfl) ?_
  refine xi_iinc (pc' := 57) (x := 4) (v := 5) (lv' := [(3, .int 5), (1, .int 0), (2, .int 8), (0, .ref 115)]) kc_67_54 rfl rfl rfl rfl (xm_lt ml_67 rfl) ?_
  refine xi_goto (pc' := 12) kc_67_57 rfl ?_
  refine xi_iload_n (pc' := 13) (x := 5) kc_67_12 rfl rfl ?_
  refine xi_iload_n (pc' := 14) (x := 8) kc_67_13 rfl rfl ?_
  refine xi_cmf (pc' := 17) kc_67_14 rfl rfl ?_
  refine xi_iload_n (pc' := 18) (x := 0) kc_67_17 rfl rfl ?_
  refine xi_aload_n (pc' := 19) (x := 115) kc_67_18 rfl rfl ?_
  refine xi_getfield (pc' := 22) (v := .ref 158) kc_67_19 rfl rfl rfl e115 rfl ?_
  refine xi_iload_n (pc' := 23) (x := 8) kc_67_22 rfl rfl ?_
  refine xi_iaload (pc' := 24) (v := 2) kc_67_23 rfl e158 (by decide) rfl (xi_in (n := 24) (by decide) (by decide)) rfl ?_
  refine xi_iconst (pc' := 25) (v := 1) kc_67_24 rfl rfl ?_
  refine xi_cmt (pc' := 51) kc_67_25 rfl rfl ?_
  refine xi_iconst (pc' := 52) (v := 0) kc_67_51 rfl rfl ?_
  refine xi_iadd (pc' := 53) (v := 0) kc_67_52 rfl rfl ?_
  refine xi_istore_n (pc' := 54) (lv' := [(1, .int 0), (3, .int 5), (2, .int 8), (0, .ref 115)]) kc_67_53 rfl rfl (xm_lt ml_67 rfl) ?_
  refine xi_iinc (pc' := 57) (x := 5) (v := 6) (lv' := [(3, .int 6), (1, .int 0), (2, .int 8), (0, .ref 115)]) kc_67_54 rfl rfl rfl rfl (xm_lt ml_67 rfl) ?_
  refine xi_goto (pc' := 12) kc_67_57 rfl ?_
  refine xi_iload_n (pc' := 13) (x := 6) kc_67_12 rfl rfl ?_
  refine xi_iload_n (pc' := 14) (x := 8) kc_67_13 rfl rfl ?_
  refine xi_cmf (pc' := 17) kc_67_14 rfl rfl ?_
  refine xi_iload_n (pc' := 18) (x := 0) kc_67_17 rfl rfl ?_
  refine xi_aload_n (pc' := 19) (x := 115) kc_67_18 rfl rfl ?_
  refine xi_getfield (pc' := 22) (v := .ref 158) kc_67_19 rfl rfl rfl e115 rfl ?_
  refine xi_iload_n (pc' := 23) (x := 8) kc_67_22 rfl rfl ?_
  refine xi_iaload (pc' := 24) (v := 2) kc_67_23 rfl e158 (by decide) rfl (xi_in (n := 24) (by decide) (by decide)) rfl ?_
  refine xi_iconst (pc' := 25) (v := 1) kc_67_24 rfl rfl ?_
  refine xi_cmt (pc' := 51) kc_67_25 rfl rfl ?_
  refine xi_iconst (pc' := 52) (v := 0) kc_67_51 rfl rfl ?_
  refine xi_iadd (pc' := 53) (v := 0) kc_67_52 rfl rfl ?_
  refine xi_istore_n (pc' := 54) (lv' := [(1, .int 0), (3, .int 6), (2, .int 8), (0, .ref 115)]) kc_67_53 rfl rfl (xm_lt ml_67 rfl) ?_
  refine xi_iinc (pc' := 57) (x := 6) (v := 7) (lv' := [(3, .int 7), (1, .int 0), (2, .int 8), (0, .ref 115)]) kc_67_54 rfl rfl rfl rfl (xm_lt ml_67 rfl) ?_
  refine xi_goto (pc' := 12) kc_67_57 rfl ?_
  refine xi_iload_n (pc' := 13) (x := 7) kc_67_12 rfl rfl ?_
  refine xi_iload_n (pc' := 14) (x := 8) kc_67_13 rfl rfl ?_
  refine xi_cmf (pc' := 17) kc_67_14 rfl rfl ?_
  refine xi_iload_n (pc' := 18) (x := 0) kc_67_17 rfl rfl ?_
  refine xi_aload_n (pc' := 19) (x := 115) kc_67_18 rfl rfl ?_
  refine xi_getfield (pc' := 22) (v := .ref 158) kc_67_19 rfl rfl rfl e115 rfl ?_
  refine xi_iload_n (pc' := 23) (x := 8) kc_67_22 rfl rfl ?_
  refine xi_iaload (pc' := 24) (v := 2) kc_67_23 rfl e158 (by decide) rfl (xi_in (n := 24) (by decide) (by decide)) rfl ?_
  refine xi_iconst (pc' := 25) (v := 1) kc_67_24 rfl rfl ?_
  refine xi_cmt (pc' := 51) kc_67_25 rfl rfl ?_
  refine xi_iconst (pc' := 52) (v := 0) kc_67_51 rfl rfl ?_
  refine xi_iadd (pc' := 53) (v := 0) kc_67_52 rfl rfl ?_
  refine xi_istore_n (pc' := 54) (lv' := [(1, .int 0), (3, .int 7), (2, .int 8), (0, .ref 115)]) kc_67_53 rfl rfl (xm_lt ml_67 rfl) ?_
  refine xi_iinc (pc' := 57) (x := 7) (v := 8) (lv' := [(3, .int 8), (1, .int 0), (2, .int 8), (0, .ref 115)]) kc_67_54 rfl rfl rfl rfl (xm_lt ml_67 rfl) ?_
  refine xi_goto (pc' := 12) kc_67_57 rfl ?_
  refine xi_iload_n (pc' := 13) (x := 8) kc_67_12 rfl rfl ?_
  refine xi_iload_n (pc' := 14) (x := 8) kc_67_13 rfl rfl ?_
  refine xi_cmt (pc' := 60) kc_67_14 rfl rfl ?_
  refine xi_iinc (pc' := 63) (x := 8) (v := 9) (lv' := [(2, .int 9), (3, .int 8), (1, .int 0), (0, .ref 115)]) kc_67_60 rfl rfl rfl rfl (xm_lt ml_67 rfl) ?_
  refine xi_goto (pc' := 4) kc_67_63 rfl ?_
  refine xi_iload_n (pc' := 5) (x := 9) kc_67_4 rfl rfl ?_
  refine xi_bipush (pc' := 7) (v := 24) kc_67_5 rfl rfl ?_
  refine xi_cmf (pc' := 10) kc_67_7 rfl rfl ?_
  refine xi_iconst (pc' := 11) (v := 0) kc_67_10 rfl rfl ?_
  refine xi_istore_n (pc' := 12) (lv' := [(3, .int 0), (2, .int 9), (1, .int 0), (0, .ref 115)]) kc_67_11 rfl rfl (xm_lt ml_67 rfl) ?_
  refine xi_iload_n (pc' := 13) (x := 0) kc_67_12 rfl rfl ?_
  refine xi_iload_n (pc' := 14) (x := 9) kc_67_13 rfl rfl ?_
  refine xi_cmf (pc' := 17) kc_67_14 rfl rfl ?_
  refine xi_iload_n (pc' := 18) (x := 0) kc_67_17 rfl rfl ?_
  refine xi_aload_n (pc' := 19) (x := 115) kc_67_18 rfl rfl ?_
  refine xi_getfield (pc' := 22) (v := .ref 158) kc_67_19 rfl rfl rfl e115 rfl ?_
  refine xi_iload_n (pc' := 23) (x := 9) kc_67_22 rfl rfl ?_
  refine xi_iaload (pc' := 24) (v := 2) kc_67_23 rfl e158 (by decide) rfl (xi_in (n := 24) (by decide) (by decide)) rfl ?_
  refine xi_iconst (pc' := 25) (v := 1) kc_67_24 rfl rfl ?_
  refine xi_cmt (pc' := 51) kc_67_25 rfl rfl ?_
  refine xi_iconst (pc' := 52) (v := 0) kc_67_51 rfl rfl ?_
  refine xi_iadd (pc' := 53) (v := 0) kc_67_52 rfl rfl ?_
  refine xi_istore_n (pc' := 54) (lv' := [(1, .int 0), (3, .int 0), (2, .int 9), (0, .ref 115)]) kc_67_53 rfl rfl (xm_lt ml_67 rfl) ?_
  refine xi_iinc (pc' := 57) (x := 0) (v := 1) (lv' := [(3, .int 1), (1, .int 0), (2, .int 9), (0, .ref 115)]) kc_67_54 rfl rfl rfl rfl (xm_lt ml_67 rfl) ?_
  refine xi_goto (pc' := 12) kc_67_57 rfl ?_
  refine xi_iload_n (pc' := 13) (x := 1) kc_67_12 rfl rfl ?_
  refine xi_iload_n (pc' := 14) (x := 9) kc_67_13 rfl rfl ?_
  refine xi_cmf (pc' := 17) kc_67_14 rfl rfl ?_
  refine xi_iload_n (pc' := 18) (x := 0) kc_67_17 rfl rfl ?_
  refine xi_aload_n (pc' := 19) (x := 115) kc_67_18 rfl rfl ?_
  refine xi_getfield (pc' := 22) (v := .ref 158) kc_67_19 rfl rfl rfl e115 rfl ?_
  refine xi_iload_n (pc' := 23) (x := 9) kc_67_22 rfl rfl ?_
  refine xi_iaload (pc' := 24) (v := 2) kc_67_23 rfl e158 (by decide) rfl (xi_in (n := 24) (by decide) (by decide)) rfl ?_
  refine xi_iconst (pc' := 25) (v := 1) kc_67_24 rfl rfl ?_
  refine xi_cmt (pc' := 51) kc_67_25 rfl rfl ?_
  refine xi_iconst (pc' := 52) (v := 0) kc_67_51 rfl rfl ?_
  refine xi_iadd (pc' := 53) (v := 0) kc_67_52 rfl rfl ?_
  refine xi_istore_n (pc' := 54) (lv' := [(1, .int 0), (3, .int 1), (2, .int 9), (0, .ref 115)]) kc_67_53 rfl rfl (xm_lt ml_67 rfl) ?_
  refine xi_iinc (pc' := 57) (x := 1) (v := 2) (lv' := [(3, .int 2), (1, .int 0), (2, .int 9), (0, .ref 115)]) kc_67_54 rfl rfl rfl rfl (xm_lt ml_67 rfl) ?_
  refine xi_goto (pc' := 12) kc_67_57 rfl ?_
  refine xi_iload_n (pc' := 13) (x := 2) kc_67_12 rfl rfl ?_
  refine xi_iload_n (pc' := 14) (x := 9) kc_67_13 rfl rfl ?_
  refine xi_cmf (pc' := 17) kc_67_14 rfl rfl ?_
  refine xi_iload_n (pc' := 18) (x := 0) kc_67_17 rfl rfl ?_
  refine xi_aload_n (pc' := 19) (x := 115) kc_67_18 rfl rfl ?_
  refine xi_getfield (pc' := 22) (v := .ref 158) kc_67_19 rfl rfl rfl e115 rfl ?_
  refine xi_iload_n (pc' := 23) (x := 9) kc_67_22 rfl rfl ?_
  refine xi_iaload (pc' := 24) (v := 2) kc_67_23 rfl e158 (by decide) rfl (xi_in (n := 24) (by decide) (by decide)) rfl ?_
  refine xi_iconst (pc' := 25) (v := 1) kc_67_24 rfl rfl ?_
  refine xi_cmt (pc' := 51) kc_67_25 rfl rfl ?_
  refine xi_iconst (pc' := 52) (v := 0) kc_67_51 rfl rfl ?_
  refine xi_iadd (pc' := 53) (v := 0) kc_67_52 rfl rfl ?_
  refine xi_istore_n (pc' := 54) (lv' := [(1, .int 0), (3, .int 2), (2, .int 9), (0, .ref 115)]) kc_67_53 rfl rfl (xm_lt ml_67 rfl) ?_
  refine xi_iinc (pc' := 57) (x := 2) (v := 3) (lv' := [(3, .int 3), (1, .int 0), (2, .int 9), (0, .ref 115)]) kc_67_54 rfl rfl rfl rfl (xm_lt ml_67 rfl) ?_
  refine xi_goto (pc' := 12) kc_67_57 rfl ?_
  refine xi_iload_n (pc' := 13) (x := 3) kc_67_12 rfl rfl ?_
  refine xi_iload_n (pc' := 14) (x := 9) kc_67_13 rfl rfl ?_
  refine xi_cmf (pc' := 17) kc_67_14 rfl rfl ?_
  refine xi_iload_n (pc' := 18) (x := 0) kc_67_17 rfl rfl ?_
  refine xi_aload_n (pc' := 19) (x := 115) kc_67_18 rfl rfl ?_
  refine xi_getfield (pc' := 22) (v := .ref 158) kc_67_19 rfl rfl rfl e115 rfl ?_
  refine xi_iload_n (pc' := 23) (x := 9) kc_67_22 rfl rfl ?_
  refine xi_iaload (pc' := 24) (v := 2) kc_67_23 rfl e158 (by decide) rfl (xi_in (n := 24) (by decide) (by decide)) rfl ?_
  refine xi_iconst (pc' := 25) (v := 1) kc_67_24 rfl rfl ?_
  refine xi_cmt (pc' := 51) kc_67_25 rfl rfl ?_
  refine xi_iconst (pc' := 52) (v := 0) kc_67_51 rfl rfl ?_
  refine xi_iadd (pc' := 53) (v := 0) kc_67_52 rfl rfl ?_
  refine xi_istore_n (pc' := 54) (lv' := [(1, .int 0), (3, .int 3), (2, .int 9), (0, .ref 115)]) kc_67_53 rfl rfl (xm_lt ml_67 rfl) ?_
  refine xi_iinc (pc' := 57) (x := 3) (v := 4) (lv' := [(3, .int 4), (1, .int 0), (2, .int 9), (0, .ref 115)]) kc_67_54 rfl rfl rfl rfl (xm_lt ml_67 rfl) ?_
  refine xi_goto (pc' := 12) kc_67_57 rfl ?_
  refine xi_iload_n (pc' := 13) (x := 4) kc_67_12 rfl rfl ?_
  refine xi_iload_n (pc' := 14) (x := 9) kc_67_13 rfl rfl ?_
  refine xi_cmf (pc' := 17) kc_67_14 rfl rfl ?_
  refine xi_iload_n (pc' := 18) (x := 0) kc_67_17 rfl rfl ?_
  refine xi_aload_n (pc' := 19) (x := 115) kc_67_18 rfl rfl ?_
  refine xi_getfield (pc' := 22) (v := .ref 158) kc_67_19 rfl rfl rfl e115 rfl ?_
  refine xi_iload_n (pc' := 23) (x := 9) kc_67_22 rfl rfl ?_
  refine xi_iaload (pc' := 24) (v := 2) kc_67_23 rfl e158 (by decide) rfl (xi_in (n := 24) (by decide) (by decide)) rfl ?_
  refine xi_iconst (pc' := 25) (v := 1) kc_67_24 rfl rfl ?_
  refine xi_cmt (pc' := 51) kc_67_25 rfl rfl ?_
  refine xi_iconst (pc' := 52) (v := 0) kc_67_51 rfl rfl ?_
  refine xi_iadd (pc' := 53) (v := 0) kc_67_52 rfl rfl ?_
  refine xi_istore_n (pc' := 54) (lv' := [(1, .int 0), (3, .int 4), (2, .int 9), (0, .ref 115)]) kc_67_53 rfl rfl (xm_lt ml_67 rfl) ?_
  refine xi_iinc (pc' := 57) (x := 4) (v := 5) (lv' := [(3, .int 5), (1, .int 0), (2, .int 9), (0, .ref 115)]) kc_67_54 rfl rfl rfl rfl (xm_lt ml_67 rfl) ?_
  refine xi_goto (pc' := 12) kc_67_57 rfl ?_
  refine xi_iload_n (pc' := 13) (x := 5) kc_67_12 rfl rfl ?_
  refine xi_iload_n (pc' := 14) (x := 9) kc_67_13 rfl rfl ?_
  refine xi_cmf (pc' := 17) kc_67_14 rfl rfl ?_
  refine xi_iload_n (pc' := 18) (x := 0) kc_67_17 rfl rfl ?_
  refine xi_aload_n (pc' := 19) (x := 115) kc_67_18 rfl rfl ?_
  refine xi_getfield (pc' := 22) (v := .ref 158) kc_67_19 rfl rfl rfl e115 rfl ?_
  refine xi_iload_n (pc' := 23) (x := 9) kc_67_22 rfl rfl ?_
  refine xi_iaload (pc' := 24) (v := 2) kc_67_23 rfl e158 (by decide) rfl (xi_in (n := 24) (by decide) (by decide)) rfl ?_
  refine xi_iconst (pc' := 25) (v := 1) kc_67_24 rfl rfl ?_
  refine xi_cmt (pc' := 51) kc_67_25 rfl rfl ?_
  refine xi_iconst (pc' := 52) (v := 0) kc_67_51 rfl rfl ?_
  refine xi_iadd (pc' := 53) (v := 0) kc_67_52 rfl rfl ?_
  refine xi_istore_n (pc' := 54) (lv' := [(1, .int 0), (3, .int 5), (2, .int 9), (0, .ref 115)]) kc_67_53 rfl rfl (xm_lt ml_67 rfl) ?_
  refine xi_iinc (pc' := 57) (x := 5) (v := 6) (lv' := [(3, .int 6), (1, .int 0), (2, .int 9), (0, .ref 115)]) kc_67_54 rfl rfl rfl rfl (xm_lt ml_67 rfl) ?_
  refine xi_goto (pc' := 12) kc_67_57 rfl ?_
  refine xi_iload_n (pc' := 13) (x := 6) kc_67_12 rfl rfl ?_
  refine xi_iload_n (pc' := 14) (x := 9) kc_67_13 rfl rfl ?_
  refine xi_cmf (pc' := 17) kc_67_14 rfl rfl ?_
  refine xi_iload_n (pc' := 18) (x := 0) kc_67_17 rfl rfl ?_
  refine xi_aload_n (pc' := 19) (x := 115) kc_67_18 rfl rfl ?_
  refine xi_getfield (pc' := 22) (v := .ref 158) kc_67_19 rfl rfl rfl e115 rfl ?_
  refine xi_iload_n (pc' := 23) (x := 9) kc_67_22 rfl rfl ?_
  refine xi_iaload (pc' := 24) (v := 2) kc_67_23 rfl e158 (by decide) rfl (xi_in (n := 24) (by decide) (by decide)) rfl ?_
  refine xi_iconst (pc' := 25) (v := 1) kc_67_24 rfl rfl ?_
  refine xi_cmt (pc' := 51) kc_67_25 rfl rfl ?_
  refine xi_iconst (pc' := 52) (v := 0) kc_67_51 rfl rfl ?_
  refine xi_iadd (pc' := 53) (v := 0) kc_67_52 rfl rfl ?_
  refine xi_istore_n (pc' := 54) (lv' := [(1, .int 0), (3, .int 6), (2, .int 9), (0, .ref 115)]) kc_67_53 rfl rfl (xm_lt ml_67 rfl) ?_
  refine xi_iinc (pc' := 57) (x := 6) (v := 7) (lv' := [(3, .int 7), (1, .int 0), (2, .int 9), (0, .ref 115)]) kc_67_54 rfl rfl rfl rfl (xm_lt ml_67 rfl) ?_
  refine xi_goto (pc' := 12) kc_67_57 rfl ?_
  refine xi_iload_n (pc' := 13) (x := 7) kc_67_12 rfl rfl ?_
  refine xi_iload_n (pc' := 14) (x := 9) kc_67_13 rfl rfl ?_
  refine xi_cmf (pc' := 17) kc_67_14 rfl rfl ?_
  refine xi_iload_n (pc' := 18) (x := 0) kc_67_17 rfl rfl ?_
  refine xi_aload_n (pc' := 19) (x := 115) kc_67_18 rfl rfl ?_
  refine xi_getfield (pc' := 22) (v := .ref 158) kc_67_19 rfl rfl rfl e115 rfl ?_
  refine xi_iload_n (pc' := 23) (x := 9) kc_67_22 rfl rfl ?_
  refine xi_iaload (pc' := 24) (v := 2) kc_67_23 rfl e158 (by decide) rfl (xi_in (n := 24) (by decide) (by decide)) rfl ?_
  refine xi_iconst (pc' := 25) (v := 1) kc_67_24 rfl rfl ?_
  refine xi_cmt (pc' := 51) kc_67_25 rfl rfl ?_
  refine xi_iconst (pc' := 52) (v := 0) kc_67_51 rfl rfl ?_
  refine xi_iadd (pc' := 53) (v := 0) kc_67_52 rfl rfl ?_
  refine xi_istore_n (pc' := 54) (lv' := [(1, .int 0), (3, .int 7), (2, .int 9), (0, .ref 115)]) kc_67_53 rfl rfl (xm_lt ml_67 rfl) ?_
  refine xi_iinc (pc' := 57) (x := 7) (v := 8) (lv' := [(3, .int 8), (1, .int 0), (2, .int 9), (0, .ref 115)]) kc_67_54 rfl rfl rfl rfl (xm_lt ml_67 rfl) ?_
  refine xi_goto (pc' := 12) kc_67_57 rfl ?_
  refine xi_iload_n (pc' := 13) (x := 8) kc_67_12 rfl rfl ?_
  refine xi_iload_n (pc' := 14) (x := 9) kc_67_13 rfl rfl ?_
  refine xi_cmf (pc' := 17) kc_67_14 rfl rfl ?_
  refine xi_iload_n (pc' := 18) (x := 0) kc_67_17 rfl rfl ?_
  refine xi_aload_n (pc' := 19) (x := 115) kc_67_18 rfl rfl ?_
  refine xi_getfield (pc' := 22) (v := .ref 158) kc_67_19 rfl rfl rfl e115 rfl ?_
  refine xi_iload_n (pc' := 23) (x := 9) kc_67_22 rfl rfl ?_
  refine xi_iaload (pc' := 24) (v := 2) kc_67_23 rfl e158 (by decide) rfl (xi_in (n := 24) (by decide) (by decide)) rfl ?_
  refine xi_iconst (pc' := 25) (v := 1) kc_67_24 rfl rfl ?_
  refine xi_cmt (pc' := 51) kc_67_25 rfl rfl ?_
  refine xi_iconst (pc' := 52) (v := 0) kc_67_51 rfl rfl ?_
  refine xi_iadd (pc' := 53) (v := 0) kc_67_52 rfl rfl ?_
  refine xi_istore_n (pc' := 54) (lv' := [(1, .int 0), (3, .int 8), (2, .int 9), (0, .ref 115)]) kc_67_53 rfl rfl (xm_lt ml_67 rfl) ?_
  refine xi_iinc (pc' := 57) (x := 8) (v := 9) (lv' := [(3, .int 9), (1, .int 0), (2, .int 9), (0, .ref 115)]) kc_67_54 rfl rfl rfl rfl (xm_lt ml_67 rfl) ?_
  refine xi_goto (pc' := 12) kc_67_57 rfl ?_
  refine xi_iload_n (pc' := 13) (x := 9) kc_67_12 rfl rfl ?_
  refine xi_iload_n (pc' := 14) (x := 9) kc_67_13 rfl rfl ?_
  refine xi_cmt (pc' := 60) kc_67_14 rfl rfl ?_
  refine xi_iinc (pc' := 63) (x := 9) (v := 10) (lv' := [(2, .int 10), (3, .int 9), (1, .int 0), (0, .ref 115)]) kc_67_60 rfl rfl rfl rfl (xm_lt ml_67 rfl) ?_
  refine xi_goto (pc' := 4) kc_67_63 rfl ?_
  refine xi_iload_n (pc' := 5) (x := 10) kc_67_4 rfl rfl ?_
  refine xi_bipush (pc' := 7) (v := 24) kc_67_5 rfl rfl ?_
  refine xi_cmf (pc' := 10) kc_67_7 rfl rfl ?_
  refine xi_iconst (pc' := 11) (v := 0) kc_67_10 rfl rfl ?_
  refine xi_istore_n (pc' := 12) (lv' := [(3, .int 0), (2, .int 10), (1, .int 0), (0, .ref 115)]) kc_67_11 rfl rfl (xm_lt ml_67 rfl) ?_
  refine xi_iload_n (pc' := 13) (x := 0) kc_67_12 rfl rfl ?_
  refine xi_iload_n (pc' := 14) (x := 10) kc_67_13 rfl rfl ?_
  refine xi_cmf (pc' := 17) kc_67_14 rfl rfl ?_
  refine xi_iload_n (pc' := 18) (x := 0) kc_67_17 rfl rfl ?_
  refine xi_aload_n (pc' := 19) (x := 115) kc_67_18 rfl rfl ?_
  refine xi_getfield (pc' := 22) (v := .ref 158) kc_67_19 rfl rfl rfl e115 rfl ?_
  refine xi_iload_n (pc' := 23) (x := 10) kc_67_22 rfl rfl ?_
  refine xi_iaload (pc' := 24) (v := 2) kc_67_23 rfl e158 (by decide) rfl (xi_in (n := 24) (by decide) (by decide)) rfl ?_
  refine xi_iconst (pc' := 25) (v := 1) kc_67_24 rfl rfl ?_
  refine xi_cmt (pc' := 51) kc_67_25 rfl rfl ?_
  refine xi_iconst (pc' := 52) (v := 0) kc_67_51 rfl rfl ?_
  refine xi_iadd (pc' := 53) (v := 0) kc_67_52 rfl rfl ?_
  refine xi_istore_n (pc' := 54) (lv' := [(1, .int 0), (3, .int 0), (2, .int 10), (0, .ref 115)]) kc_67_53 rfl rfl (xm_lt ml_67 rfl) ?_
  refine xi_iinc (pc' := 57) (x := 0) (v := 1) (lv' := [(3, .int 1), (1, .int 0), (2, .int 10), (0, .ref 115)]) kc_67_54 rfl rfl rfl rfl (xm_lt ml_67 rfl) ?_
  refine xi_goto (pc' := 12) kc_67_57 rfl ?_
  refine xi_iload_n (pc' := 13) (x := 1) kc_67_12 rfl rfl ?_
  refine xi_iload_n (pc' := 14) (x := 10) kc_67_13 rfl rfl ?_
  refine xi_cmf (pc' := 17) kc_67_14 rfl rfl ?_
  refine xi_iload_n (pc' := 18) (x := 0) kc_67_17 rfl rfl ?_
  refine xi_aload_n (pc' := 19) (x := 115) kc_67_18 rfl rfl ?_
  refine xi_getfield (pc' := 22) (v := .ref 158) kc_67_19 rfl rfl rfl e115 rfl ?_
  refine xi_iload_n (pc' := 23) (x := 10) kc_67_22 rfl rfl ?_
  refine xi_iaload (pc' := 24) (v := 2) kc_67_23 rfl e158 (by decide) rfl (xi_in (n := 24) (by decide) (by decide)) rfl ?_
  refine xi_iconst (pc' := 25) (v := 1) kc_67_24 rfl rfl ?_
  refine xi_cmt (pc' := 51) kc_67_25 rfl rfl ?_
  refine xi_iconst (pc' := 52) (v := 0) kc_67_51 rfl rfl ?_
  refine xi_iadd (pc' := 53) (v := 0) kc_67_52 rfl rfl ?_
  refine xi_istore_n (pc' := 54) (lv' := [(1, .int 0), (3, .int 1), (2, .int 10), (0, .ref 115)]) kc_67_53 rfl rfl (xm_lt ml_67 rfl) ?_
  refine xi_iinc (pc' := 57) (x := 1) (v := 2) (lv' := [(3, .int 2), (1, .int 0), (2, .int 10), (0, .ref 115)]) kc_67_54 rfl rfl rfl rfl (xm_lt ml_67 rfl) ?_
  refine xi_goto (pc' := 12) kc_67_57 rfl ?_
  refine xi_iload_n (pc' := 13) (x := 2) kc_67_12 rfl rfl ?_
  refine xi_iload_n (pc' := 14) (x := 10) kc_67_13 rfl rfl ?_
  refine xi_cmf (pc' := 17) kc_67_14 rfl rfl ?_
  refine xi_iload_n (pc' := 18) (x := 0) kc_67_17 rfl rfl ?_
  refine xi_aload_n (pc' := 19) (x := 115) kc_67_18 rfl rfl ?_
  refine xi_getfield (pc' := 22) (v := .ref 158) kc_67_19 rfl rfl rfl e115 rfl ?_
  refine xi_iload_n (pc' := 23) (x := 10) kc_67_22 rfl rfl ?_
  refine xi_iaload (pc' := 24) (v := 2) kc_67_23 rfl e158 (by decide) rfl (xi_in (n := 24) (by decide) (by decide)) rfl ?_
  refine xi_iconst (pc' := 25) (v := 1) kc_67_24 rfl rfl ?_
  refine xi_cmt (pc' := 51) kc_67_25 rfl rfl ?_
  refine xi_iconst (pc' := 52) (v := 0) kc_67_51 rfl rfl ?_
  refine xi_iadd (pc' := 53) (v := 0) kc_67_52 rfl rfl ?_
  refine xi_istore_n (pc' := 54) (lv' := [(1, .int 0), (3, .int 2), (2, .int 10), (0, .ref 115)]) kc_67_53 rfl rfl (xm_lt ml_67 rfl) ?_
  refine xi_iinc (pc' := 57) (x := 2) (v := 3) (lv' := [(3, .int 3), (1, .int 0), (2, .int 10), (0, .ref 115)]) kc_67_54 rfl rfl rfl rfl (xm_lt ml_67 rfl) ?_
  refine xi_goto (pc' := 12) kc_67_57 rfl ?_
  refine xi_iload_n (pc' := 13) (x := 3) kc_67_12 rfl rfl ?_
  refine xi_iload_n (pc' := 14) (x := 10) kc_67_13 rfl rfl ?_
  refine xi_cmf (pc' := 17) kc_67_14 rfl rfl ?_
  refine xi_iload_n (pc' := 18) (x := 0) kc_67_17 rfl rfl ?_
  refine xi_aload_n (pc' := 19) (x := 115) kc_67_18 rfl rfl ?_
  refine xi_getfield (pc' := 22) (v := .ref 158) kc_67_19 rfl rfl rfl e115 rfl ?_
  refine xi_iload_n (pc' := 23) (x := 10) kc_67_22 rfl rfl ?_
  refine xi_iaload (pc' := 24) (v := 2) kc_67_23 rfl e158 (by decide) rfl (xi_in (n := 24) (by decide) (by decide)) rfl ?_
  refine xi_iconst (pc' := 25) (v := 1) kc_67_24 rfl rfl ?_
  refine xi_cmt (pc' := 51) kc_67_25 rfl rfl ?_
  refine xi_iconst (pc' := 52) (v := 0) kc_67_51 rfl rfl ?_
  refine xi_iadd (pc' := 53) (v := 0) kc_67_52 rfl rfl ?_
  refine xi_istore_n (pc' := 54) (lv' := [(1, .int 0), (3, .int 3), (2, .int 10), (0, .ref 115)]) kc_67_53 rfl rfl (xm_lt ml_67 rfl) ?_
  refine xi_iinc (pc' := 57) (x := 3) (v := 4) (lv' := [(3, .int 4), (1, .int 0), (2, .int 10), (0, .ref 115)]) kc_67_54 rfl rfl rfl rfl (xm_lt ml_67 rfl) ?_
  refine xi_goto (pc' := 12) kc_67_57 rfl ?_
  refine xi_iload_n (pc' := 13) (x := 4) kc_67_12 rfl rfl ?_
  refine xi_iload_n (pc' := 14) (x := 10) kc_67_13 rfl rfl ?_
  refine xi_cmf (pc' := 17) kc_67_14 rfl rfl ?_
  refine xi_iload_n (pc' := 18) (x := 0) kc_67_17 rfl rfl ?_
  refine xi_aload_n (pc' := 19) (x := 115) kc_67_18 rfl rfl ?_
  refine xi_getfield (pc' := 22) (v := .ref 158) kc_67_19 rfl rfl rfl e115 rfl ?_
  refine xi_iload_n (pc' := 23) (x := 10) kc_67_22 rfl rfl ?_
  refine xi_iaload (pc' := 24) (v := 2) kc_67_23 rfl e158 (by decide) rfl (xi_in (n := 24) (by decide) (by decide)) rfl ?_
  refine xi_iconst (pc' := 25) (v := 1) kc_67_24 rfl rfl ?_
  refine xi_cmt (pc' := 51) kc_67_25 rfl rfl ?_
  refine xi_iconst (pc' := 52) (v := 0) kc_67_51 rfl rfl ?_
  refine xi_iadd (pc' := 53) (v := 0) kc_67_52 rfl rfl ?_
  refine xi_istore_n (pc' := 54) (lv' := [(1, .int 0), (3, .int 4), (2, .int 10), (0, .ref 115)]) kc_67_53 rfl rfl (xm_lt ml_67 rfl) ?_
  refine xi_iinc (pc' := 57) (x := 4) (v := 5) (lv' := [(3, .int 5), (1, .int 0), (2, .int 10), (0, .ref 115)]) kc_67_54 rfl rfl rfl rfl (xm_lt ml_67 rfl) ?_
  refine xi_goto (pc' := 12) kc_67_57 rfl ?_
  refine xi_iload_n (pc' := 13) (x := 5) kc_67_12 rfl rfl ?_
  refine xi_iload_n (pc' := 14) (x := 10) kc_67_13 rfl rfl ?_
  refine xi_cmf (pc' := 17) kc_67_14 rfl rfl ?_
  refine xi_iload_n (pc' := 18) (x := 0) kc_67_17 rfl rfl ?_
  refine xi_aload_n (pc' := 19) (x := 115) kc_67_18 rfl rfl ?_
  refine xi_getfield (pc' := 22) (v := .ref 158) kc_67_19 rfl rfl rfl e115 rfl ?_
  refine xi_iload_n (pc' := 23) (x := 10) kc_67_22 rfl rfl ?_
  refine xi_iaload (pc' := 24) (v := 2) kc_67_23 rfl e158 (by decide) rfl (xi_in (n := 24) (by decide) (by decide)) rfl ?_
  refine xi_iconst (pc' := 25) (v := 1) kc_67_24 rfl rfl ?_
  refine xi_cmt (pc' := 51) kc_67_25 rfl rfl ?_
  refine xi_iconst (pc' := 52) (v := 0) kc_67_51 rfl rfl ?_
  refine xi_iadd (pc' := 53) (v := 0) kc_67_52 rfl rfl ?_
  refine xi_istore_n (pc' := 54) (lv' := [(1, .int 0), (3, .int 5), (2, .int 10), (0, .ref 115)]) kc_67_53 rfl rfl (xm_lt ml_67 rfl) ?_
  refine xi_iinc (pc' := 57) (x := 5) (v := 6) (lv' := [(3, .int 6), (1, .int 0), (2, .int 10), (0, .ref 115)]) kc_67_54 rfl rfl rfl rfl (xm_lt ml_67 rfl) ?_
  refine xi_goto (pc' := 12) kc_67_57 rfl ?_
  refine xi_iload_n (pc' := 13) (x := 6) kc_67_12 rfl rfl ?_
  refine xi_iload_n (pc' := 14) (x := 10) kc_67_13 rfl rfl ?_
  refine xi_cmf (pc' := 17) kc_67_14 rfl rfl ?_
  refine xi_iload_n (pc' := 18) (x := 0) kc_67_17 rfl rfl ?_
  refine xi_aload_n (pc' := 19) (x := 115) kc_67_18 rfl rfl ?_
  refine xi_getfield (pc' := 22) (v := .ref 158) kc_67_19 rfl rfl rfl e115 rfl ?_
  refine xi_iload_n (pc' := 23) (x := 10) kc_67_22 rfl rfl ?_
  refine xi_iaload (pc' := 24) (v := 2) kc_67_23 rfl e158 (by decide) rfl (xi_in (n := 24) (by decide) (by decide)) rfl ?_
  refine xi_iconst (pc' := 25) (v := 1) kc_67_24 rfl rfl ?_
  refine xi_cmt (pc' := 51) kc_67_25 rfl rfl ?_
  refine xi_iconst (pc' := 52) (v := 0) kc_67_51 rfl rfl ?_
  refine xi_iadd (pc' := 53) (v := 0) kc_67_52 rfl rfl ?_
  refine xi_istore_n (pc' := 54) (lv' := [(1, .int 0), (3, .int 6), (2, .int 10), (0, .ref 115)]) kc_67_53 rfl rfl (xm_lt ml_67 rfl) ?_
  refine xi_iinc (pc' := 57) (x := 6) (v := 7) (lv' := [(3, .int 7), (1, .int 0), (2, .int 10), (0, .ref 115)]) kc_67_54 rfl rfl rfl rfl (xm_lt ml_67 rfl) ?_
  refine xi_goto (pc' := 12) kc_67_57 rfl ?_
  refine xi_iload_n (pc' := 13) (x := 7) kc_67_12 rfl rfl ?_
  refine xi_iload_n (pc' := 14) (x := 10) kc_67_13 rfl rfl ?_
  refine xi_cmf (pc' := 17) kc_67_14 rfl rfl ?_
  refine xi_iload_n (pc' := 18) (x := 0) kc_67_17 rfl rfl ?_
  refine xi_aload_n (pc' := 19) (x := 115) kc_67_18 rfl rfl ?_
  refine xi_getfield (pc' := 22) (v := .ref 158) kc_67_19 rfl rfl rfl e115 rfl ?_
  refine xi_iload_n (pc' := 23) (x := 10) kc_67_22 rfl rfl ?_
  refine xi_iaload (pc' := 24) (v := 2) kc_67_23 rfl e158 (by decide) rfl (xi_in (n := 24) (by decide) (by decide)) rfl ?_
  refine xi_iconst (pc' := 25) (v := 1) kc_67_24 rfl rfl ?_
  refine xi_cmt (pc' := 51) kc_67_25 rfl rfl ?_
  refine xi_iconst (pc' := 52) (v := 0) kc_67_51 rfl rfl ?_
  refine xi_iadd (pc' := 53) (v := 0) kc_67_52 rfl rfl ?_
  refine xi_istore_n (pc' := 54) (lv' := [(1, .int 0), (3, .int 7), (2, .int 10), (0, .ref 115)]) kc_67_53 rfl rfl (xm_lt ml_67 rfl) ?_
  refine xi_iinc (pc' := 57) (x := 7) (v := 8) (lv' := [(3, .int 8), (1, .int 0), (2, .int 10), (0, .ref 115)]) kc_67_54 rfl rfl rfl rfl (xm_lt ml_67 rfl) ?_
  refine xi_goto (pc' := 12) kc_67_57 rfl ?_
  refine xi_iload_n (pc' := 13) (x := 8) kc_67_12 rfl rfl ?_
  refine xi_iload_n (pc' := 14) (x := 10) kc_67_13 rfl rfl ?_
  refine xi_cmf (pc' := 17) kc_67_14 rfl rfl ?_
  refine xi_iload_n (pc' := 18) (x := 0) kc_67_17 rfl rfl ?_
  refine xi_aload_n (pc' := 19) (x := 115) kc_67_18 rfl rfl ?_
  refine xi_getfield (pc' := 22) (v := .ref 158) kc_67_19 rfl rfl rfl e115 rfl ?_
  refine xi_iload_n (pc' := 23) (x := 10) kc_67_22 rfl rfl ?_
  refine xi_iaload (pc' := 24) (v := 2) kc_67_23 rfl e158 (by decide) rfl (xi_in (n := 24) (by decide) (by decide)) rfl ?_
  refine xi_iconst (pc' := 25) (v := 1) kc_67_24 rfl rfl ?_
  refine xi_cmt (pc' := 51) kc_67_25 rfl rfl ?_
  refine xi_iconst (pc' := 52) (v := 0) kc_67_51 rfl rfl ?_
  refine xi_iadd (pc' := 53) (v := 0) kc_67_52 rfl rfl ?_
  refine xi_istore_n (pc' := 54) (lv' := [(1, .int 0), (3, .int 8), (2, .int 10), (0, .ref 115)]) kc_67_53 rfl rfl (xm_lt ml_67 rfl) ?_
  refine xi_iinc (pc' := 57) (x := 8) (v := 9) (lv' := [(3, .int 9), (1, .int 0), (2, .int 10), (0, .ref 115)]) kc_67_54 rfl rfl rfl rfl (xm_lt ml_67 rfl) ?_
  refine xi_goto (pc' := 12) kc_67_57 rfl ?_
  refine xi_iload_n (pc' := 13) (x := 9) kc_67_12 rfl rfl ?_
  refine xi_iload_n (pc' := 14) (x := 10) kc_67_13 rfl rfl ?_
  refine xi_cmf (pc' := 17) kc_67_14 rfl rfl ?_
  refine xi_iload_n (pc' := 18) (x := 0) kc_67_17 rfl rfl ?_
  refine xi_aload_n (pc' := 19) (x := 115) kc_67_18 rfl rfl ?_
  refine xi_getfield (pc' := 22) (v := .ref 158) kc_67_19 rfl rfl rfl e115 rfl ?_
  refine xi_iload_n (pc' := 23) (x := 10) kc_67_22 rfl rfl ?_
  refine xi_iaload (pc' := 24) (v := 2) kc_67_23 rfl e158 (by decide) rfl (xi_in (n := 24) (by decide) (by decide)) rfl ?_
  refine xi_iconst (pc' := 25) (v := 1) kc_67_24 rfl rfl ?_
  refine xi_cmt (pc' := 51) kc_67_25 rfl rfl ?_
  refine xi_iconst (pc' := 52) (v := 0) kc_67_51 rfl rfl ?_
  refine xi_iadd (pc' := 53) (v := 0) kc_67_52 rfl rfl ?_
  refine xi_istore_n (pc' := 54) (lv' := [(1, .int 0), (3, .int 9), (2, .int 10), (0, .ref 115)]) kc_67_53 rfl rfl (xm_lt ml_67 rfl) ?_
  refine xi_iinc (pc' := 57) (x := 9) (v := 10) (lv' := [(3, .int 10), (1, .int 0), (2, .int 10), (0, .ref 115)]) kc_67_54 rfl rfl rfl rfl (xm_lt ml_67 rfl) ?_
  refine xi_goto (pc' := 12) kc_67_57 rfl ?_
  refine xi_iload_n (pc' := 13) (x := 10) kc_67_12 rfl rfl ?_
  refine xi_iload_n (pc' := 14) (x := 10) kc_67_13 rfl rfl ?_
  refine xi_cmt (pc' := 60) kc_67_14 rfl rfl ?_
  refine xi_iinc (pc' := 63) (x := 10) (v := 11) (lv' := [(2, .int 11), (3, .int 10), (1, .int 0), (0, .ref 115)]) kc_67_60 rfl rfl rfl rfl (xm_lt ml_67 rfl) ?_
  refine xi_goto (pc' := 4) kc_67_63 rfl ?_
  refine xi_iload_n (pc' := 5) (x := 11) kc_67_4 rfl rfl ?_
  refine xi_bipush (pc' := 7) (v := 24) kc_67_5 rfl rfl ?_
  refine xi_cmf (pc' := 10) kc_67_7 rfl rfl ?_
  refine xi_iconst (pc' := 11) (v := 0) kc_67_10 rfl rfl ?_
  refine xi_istore_n (pc' := 12) (lv' := [(3, .int 0), (2, .int 11), (1, .int 0), (0, .ref 115)]) kc_67_11 rfl rfl (xm_lt ml_67 rfl) ?_
  refine xi_iload_n (pc' := 13) (x := 0) kc_67_12 rfl rfl ?_
  refine xi_iload_n (pc' := 14) (x := 11) kc_67_13 rfl rfl ?_
  refine xi_cmf (pc' := 17) kc_67_14 rfl rfl ?_
  refine xi_iload_n (pc' := 18) (x := 0) kc_67_17 rfl rfl ?_
  refine xi_aload_n (pc' := 19) (x := 115) kc_67_18 rfl rfl ?_
  refine xi_getfield (pc' := 22) (v := .ref 158) kc_67_19 rfl rfl rfl e115 rfl ?_
  refine xi_iload_n (pc' := 23) (x := 11) kc_67_22 rfl rfl ?_
  refine xi_iaload (pc' := 24) (v := 2) kc_67_23 rfl e158 (by decide) rfl (xi_in (n := 24) (by decide) (by decide)) rfl ?_
  refine xi_iconst (pc' := 25) (v := 1) kc_67_24 rfl rfl ?_
  refine xi_cmt (pc' := 51) kc_67_25 rfl rfl ?_
  refine xi_iconst (pc' := 52) (v := 0) kc_67_51 rfl rfl ?_
  refine xi_iadd (pc' := 53) (v := 0) kc_67_52 rfl rfl ?_
  refine xi_istore_n (pc' := 54) (lv' := [(1, .int 0), (3, .int 0), (2, .int 11), (0, .ref 115)]) kc_67_53 rfl rfl (xm_lt ml_67 rfl) ?_
  refine xi_iinc (pc' := 57) (x := 0) (v := 1) (lv' := [(3, .int 1), (1, .int 0), (2, .int 11), (0, .ref 115)]) kc_67_54 rfl rfl rfl rfl (xm_lt ml_67 rfl) ?_
  refine xi_goto (pc' := 12) kc_67_57 rfl ?_
  refine xi_iload_n (pc' := 13) (x := 1) kc_67_12 rfl rfl ?_
  refine xi_iload_n (pc' := 14) (x := 11) kc_67_13 rfl rfl ?_
  refine xi_cmf (pc' := 17) kc_67_14 rfl rfl ?_
  refine xi_iload_n (pc' := 18) (x := 0) kc_67_17 rfl rfl ?_
  refine xi_aload_n (pc' := 19) (x := 115) kc_67_18 rfl rfl ?_
  refine xi_getfield (pc' := 22) (v := .ref 158) kc_67_19 rfl rfl rfl e115 rfl ?_
  refine xi_iload_n (pc' := 23) (x := 11) kc_67_22 rfl rfl ?_
  refine xi_iaload (pc' := 24) (v := 2) kc_67_23 rfl e158 (by decide) rfl (xi_in (n := 24) (by decide) (by decide)) rfl ?_
  refine xi_iconst (pc' := 25) (v := 1) kc_67_24 rfl rfl ?_
  refine xi_cmt (pc' := 51) kc_67_25 rfl rfl ?_
  refine xi_iconst (pc' := 52) (v := 0) kc_67_51 rfl rfl ?_
  refine xi_iadd (pc' := 53) (v := 0) kc_67_52 rfl rfl ?_
  refine xi_istore_n (pc' := 54) (lv' := [(1, .int 0), (3, .int 1), (2, .int 11), (0, .ref 115)]) kc_67_53 rfl rfl (xm_lt ml_67 rfl) ?_
  refine xi_iinc (pc' := 57) (x := 1) (v := 2) (lv' := [(3, .int 2), (1, .int 0), (2, .int 11), (0, .ref 115)]) kc_67_54 rfl rfl rfl rfl (xm_lt ml_67 rfl) ?_
  refine xi_goto (pc' := 12) kc_67_57 rfl ?_
  refine xi_iload_n (pc' := 13) (x := 2) kc_67_12 rfl rfl ?_
  refine xi_iload_n (pc' := 14) (x := 11) kc_67_13 rfl rfl ?_
  refine xi_cmf (pc' := 17) kc_67_14 rfl rfl ?_
  refine xi_iload_n (pc' := 18) (x := 0) kc_67_17 rfl rfl ?_
  refine xi_aload_n (pc' := 19) (x := 115) kc_67_18 rfl rfl ?_
  refine xi_getfield (pc' := 22) (v := .ref 158) kc_67_19 rfl rfl rfl e115 rfl ?_
  refine xi_iload_n (pc' := 23) (x := 11) kc_67_22 rfl rfl ?_
  refine xi_iaload (pc' := 24) (v := 2) kc_67_23 rfl e158 (by decide) rfl (xi_in (n := 24) (by decide) (by decide)) rfl ?_
  refine xi_iconst (pc' := 25) (v := 1) kc_67_24 rfl rfl ?_
  refine xi_cmt (pc' := 51) kc_67_25 rfl rfl ?_
  refine xi_iconst (pc' := 52) (v := 0) kc_67_51 rfl rfl ?_
  refine xi_iadd (pc' := 53) (v := 0) kc_67_52 rfl rfl ?_
  refine xi_istore_n (pc' := 54) (lv' := [(1, .int 0), (3, .int 2), (2, .int 11), (0, .ref 115)]) kc_67_53 rfl rfl (xm_lt ml_67 rfl) ?_
  refine xi_iinc (pc' := 57) (x := 2) (v := 3) (lv' := [(3, .int 3), (1, .int 0), (2, .int 11), (0, .ref 115)]) kc_67_54 rfl rfl rfl rfl (xm_lt ml_67 rfl) ?_
  refine xi_goto (pc' := 12) kc_67_57 rfl ?_
  refine xi_iload_n (pc' := 13) (x := 3) kc_67_12 rfl rfl ?_
  refine xi_iload_n (pc' := 14) (x := 11) kc_67_13 rfl rfl ?_
  refine xi_cmf (pc' := 17) kc_67_14 rfl rfl ?_
  refine xi_iload_n (pc' := 18) (x := 0) kc_67_17 rfl rfl ?_
  refine xi_aload_n (pc' := 19) (x := 115) kc_67_18 rfl rfl ?_
  refine xi_getfield (pc' := 22) (v := .ref 158) kc_67_19 rfl rfl rfl e115 rfl ?_
  refine xi_iload_n (pc' := 23) (x := 11) kc_67_22 rfl rfl ?_
  refine xi_iaload (pc' := 24) (v := 2) kc_67_23 rfl e158 (by decide) rfl (xi_in (n := 24) (by decide) (by decide)) rfl ?_
  refine xi_iconst (pc' := 25) (v := 1) kc_67_24 rfl rfl ?_
  refine xi_cmt (pc' := 51) kc_67_25 rfl rfl ?_
  refine xi_iconst (pc' := 52) (v := 0) kc_67_51 rfl rfl ?_
  refine xi_iadd (pc' := 53) (v := 0) kc_67_52 rfl rfl ?_
  refine xi_istore_n (pc' := 54) (lv' := [(1, .int 0), (3, .int 3), (2, .int 11), (0, .ref 115)]) kc_67_53 rfl rfl (xm_lt ml_67 rfl) ?_
  refine xi_iinc (pc' := 57) (x := 3) (v := 4) (lv' := [(3, .int 4), (1, .int 0), (2, .int 11), (0, .ref 115)]) kc_67_54 rfl rfl rfl rfl (xm_lt ml_67 rfl) ?_
  refine xi_goto (pc' := 12) kc_67_57 rfl ?_
  refine xi_iload_n (pc' := 13) (x := 4) kc_67_12 rfl rfl ?_
  refine xi_iload_n (pc' := 14) (x := 11) kc_67_13 rfl rfl ?_
  refine xi_cmf (pc' := 17) kc_67_14 rfl rfl ?_
  refine xi_iload_n (pc' := 18) (x := 0) kc_67_17 rfl rfl ?_
  refine xi_aload_n (pc' := 19) (x := 115) kc_67_18 rfl rfl ?_
  refine xi_getfield (pc' := 22) (v := .ref 158) kc_67_19 rfl rfl rfl e115 rfl ?_
  refine xi_iload_n (pc' := 23) (x := 11) kc_67_22 rfl rfl ?_
  refine xi_iaload (pc' := 24) (v := 2) kc_67_23 rfl e158 (by decide) rfl (xi_in (n := 24) (by decide) (by decide)) rfl ?_
  refine xi_iconst (pc' := 25) (v := 1) kc_67_24 rfl rfl ?_
  refine xi_cmt (pc' := 51) kc_67_25 rfl rfl ?_
  refine xi_iconst (pc' := 52) (v := 0) kc_67_51 rfl rfl ?_
  refine xi_iadd (pc' := 53) (v := 0) kc_67_52 rfl rfl ?_
  refine xi_istore_n (pc' := 54) (lv' := [(1, .int 0), (3, .int 4), (2, .int 11), (0, .ref 115)]) kc_67_53 rfl rfl (xm_lt ml_67 rfl) ?_
  refine xi_iinc (pc' := 57) (x := 4) (v := 5) (lv' := [(3, .int 5), (1, .int 0), (2, .int 11), (0, .ref 115)]) kc_67_54 rfl rfl rfl rfl (xm_lt ml_67 rfl) ?_
  refine xi_goto (pc' := 12) kc_67_57 rfl ?_
  refine xi_iload_n (pc' := 13) (x := 5) kc_67_12 rfl rfl ?_
  refine xi_iload_n (pc' := 14) (x := 11) kc_67_13 rfl rfl ?_
  refine xi_cmf (pc' := 17) kc_67_14 rfl rfl ?_
  refine xi_iload_n (pc' := 18) (x := 0) kc_67_17 rfl rfl ?_
  refine xi_aload_n (pc' := 19) (x := 115) kc_67_18 rfl rfl ?_
  refine xi_getfield (pc' := 22) (v := .ref 158) kc_67_19 rfl rfl rfl e115 rfl ?_
  refine xi_iload_n (pc' := 23) (x := 11) kc_67_22 rfl rfl ?_
  refine xi_iaload (pc' := 24) (v := 2) kc_67_23 rfl e158 (by decide) rfl (xi_in (n := 24) (by decide) (by decide)) rfl ?_
  refine xi_iconst (pc' := 25) (v := 1) kc_67_24 rfl rfl ?_
  refine xi_cmt (pc' := 51) kc_67_25 rfl rfl ?_
  refine xi_iconst (pc' := 52) (v := 0) kc_67_51 rfl rfl ?_
  refine xi_iadd (pc' := 53) (v := 0) kc_67_52 rfl rfl ?_
  refine xi_istore_n (pc' := 54) (lv' := [(1, .int 0), (3, .int 5), (2, .int 11), (0, .ref 115)]) kc_67_53 rfl rfl (xm_lt ml_67 rfl) ?_
  refine xi_iinc (pc' := 57) (x := 5) (v := 6) (lv' := [(3, .int 6), (1, .int 0), (2, .int 11), (0, .ref 115)]) kc_67_54 rfl rfl rfl rfl (xm_lt ml_67 rfl) ?_
  refine xi_goto (pc' := 12) kc_67_57 rfl ?_
  refine xi_iload_n (pc' := 13) (x := 6) kc_67_12 rfl rfl ?_
  refine xi_iload_n (pc' := 14) (x := 11) kc_67_13 rfl rfl ?_
  refine xi_cmf (pc' := 17) kc_67_14 rfl rfl ?_
  refine xi_iload_n (pc' := 18) (x := 0) kc_67_17 rfl rfl ?_
  refine xi_aload_n (pc' := 19) (x := 115) kc_67_18 rfl rfl ?_
  refine xi_getfield (pc' := 22) (v := .ref 158) kc_67_19 rfl rfl rfl e115 rfl ?_
  refine xi_iload_n (pc' := 23) (x := 11) kc_67_22 rfl rfl ?_
  refine xi_iaload (pc' := 24) (v := 2) kc_67_23 rfl e158 (by decide) rfl (xi_in (n := 24) (by decide) (by decide)) rfl ?_
  refine xi_iconst (pc' := 25) (v := 1) kc_67_24 rfl rfl ?_
  refine xi_cmt (pc' := 51) kc_67_25 rfl rfl ?_
  refine xi_iconst (pc' := 52) (v := 0) kc_67_51 rfl rfl ?_
  refine xi_iadd (pc' := 53) (v := 0) kc_67_52 rfl rfl ?_
  refine xi_istore_n (pc' := 54) (lv' := [(1, .int 0), (3, .int 6), (2, .int 11), (0, .ref 115)]) kc_67_53 rfl rfl (xm_lt ml_67 rfl) ?_
  refine xi_iinc (pc' := 57) (x := 6) (v := 7) (lv' := [(3, .int 7), (1, .int 0), (2, .int 11), (0, .ref 115)]) kc_67_54 rfl rfl rfl rfl (xm_lt ml_67 rfl) ?_
  refine xi_goto (pc' := 12) kc_67_57 rfl ?_
  refine xi_iload_n (pc' := 13) (x := 7) kc_67_12 rfl rfl ?_
  refine xi_iload_n (pc' := 14) (x := 11) kc_67_13 rfl rfl ?_
  refine xi_cmf (pc' := 17) kc_67_14 rfl rfl ?_
  refine xi_iload_n (pc' := 18) (x := 0) kc_67_17 rfl rfl ?_
  refine xi_aload_n (pc' := 19) (x := 115) kc_67_18 rfl rfl ?_
  refine xi_getfield (pc' := 22) (v := .ref 158) kc_67_19 rfl rfl rfl e115 rfl ?_
  refine xi_iload_n (pc' := 23) (x := 11) kc_67_22 rfl rfl ?_
  refine xi_iaload (pc' := 24) (v := 2) kc_67_23 rfl e158 (by decide) rfl (xi_in (n := 24) (by decide) (by decide)) rfl ?_
  refine xi_iconst (pc' := 25) (v := 1) kc_67_24 rfl rfl ?_
  refine xi_cmt (pc' := 51) kc_67_25 rfl rfl ?_
  refine xi_iconst (pc' := 52) (v := 0) kc_67_51 rfl rfl ?_
  refine xi_iadd (pc' := 53) (v := 0) kc_67_52 rfl rfl ?_
  refine xi_istore_n (pc' := 54) (lv' := [(1, .int 0), (3, .int 7), (2, .int 11), (0, .ref 115)]) kc_67_53 rfl rfl (xm_lt ml_67 rfl) ?_
  refine xi_iinc (pc' := 57) (x := 7) (v := 8) (lv' := [(3, .int 8), (1, .int 0), (2, .int 11), (0, .ref 115)]) kc_67_54 rfl rfl rfl rfl (xm_lt ml_67 rfl) ?_
  refine xi_goto (pc' := 12) kc_67_57 rfl ?_
  refine xi_iload_n (pc' := 13) (x := 8) kc_67_12 rfl rfl ?_
  refine xi_iload_n (pc' := 14) (x := 11) kc_67_13 rfl rfl ?_
  refine xi_cmf (pc' := 17) kc_67_14 rfl rfl ?_
  refine xi_iload_n (pc' := 18) (x := 0) kc_67_17 rfl rfl ?_
  refine xi_aload_n (pc' := 19) (x := 115) kc_67_18 rfl rfl ?_
  refine xi_getfield (pc' := 22) (v := .ref 158) kc_67_19 rfl rfl rfl e115 rfl ?_
  refine xi_iload_n (pc' := 23) (x := 11) kc_67_22 rfl rfl ?_
  refine xi_iaload (pc' := 24) (v := 2) kc_67_23 rfl e158 (by decide) rfl (xi_in (n := 24) (by decide) (by decide)) rfl ?_
  refine xi_iconst (pc' := 25) (v := 1) kc_67_24 rfl rfl ?_
  refine xi_cmt (pc' := 51) kc_67_25 rfl rfl ?_
  refine xi_iconst (pc' := 52) (v := 0) kc_67_51 rfl rfl ?_
  refine xi_iadd (pc' := 53) (v := 0) kc_67_52 rfl rfl ?_
  refine xi_istore_n (pc' := 54) (lv' := [(1, .int 0), (3, .int 8), (2, .int 11), (0, .ref 115)]) kc_67_53 rfl rfl (xm_lt ml_67 rfl) ?_
  refine xi_iinc (pc' := 57) (x := 8) (v := 9) (lv' := [(3, .int 9), (1, .int 0), (2, .int 11), (0, .ref 115)]) kc_67_54 rfl rfl rfl rfl (xm_lt ml_67 rfl) ?_
  refine xi_goto (pc' := 12) kc_67_57 rfl ?_
  refine xi_iload_n (pc' := 13) (x := 9) kc_67_12 rfl rfl ?_
  refine xi_iload_n (pc' := 14) (x := 11) kc_67_13 rfl rfl ?_
  refine xi_cmf (pc' := 17) kc_67_14 rfl rfl ?_
  refine xi_iload_n (pc' := 18) (x := 0) kc_67_17 rfl rfl ?_
  refine xi_aload_n (pc' := 19) (x := 115) kc_67_18 rfl rfl ?_
  refine xi_getfield (pc' := 22) (v := .ref 158) kc_67_19 rfl rfl rfl e115 rfl ?_
  refine xi_iload_n (pc' := 23) (x := 11) kc_67_22 rfl rfl ?_
  refine xi_iaload (pc' := 24) (v := 2) kc_67_23 rfl e158 (by decide) rfl (xi_in (n := 24) (by decide) (by decide)) rfl ?_
  refine xi_iconst (pc' := 25) (v := 1) kc_67_24 rfl rfl ?_
  refine xi_cmt (pc' := 51) kc_67_25 rfl rfl ?_
  refine xi_iconst (pc' := 52) (v := 0) kc_67_51 rfl rfl ?_
  refine xi_iadd (pc' := 53) (v := 0) kc_67_52 rfl rfl ?_
  refine xi_istore_n (pc' := 54) (lv' := [(1, .int 0), (3, .int 9), (2, .int 11), (0, .ref 115)]) kc_67_53 rfl rfl (xm_lt ml_67 rfl) ?_
  refine xi_iinc (pc' := 57) (x := 9) (v := 10) (lv' := [(3, .int 10), (1, .int 0), (2, .int 11), (0, .ref 115)]) kc_67_54 rfl rfl rfl rfl (xm_lt ml_67 rfl) ?_
  refine xi_goto (pc' := 12) kc_67_57 rfl ?_
  refine xi_iload_n (pc' := 13) (x := 10) kc_67_12 rfl rfl ?_
  refine xi_iload_n (pc' := 14) (x := 11) kc_67_13 rfl rfl ?_
  refine xi_cmf (pc' := 17) kc_67_14 rfl rfl ?_
  refine xi_iload_n (pc' := 18) (x := 0) kc_67_17 rfl rfl ?_
  refine xi_aload_n (pc' := 19) (x := 115) kc_67_18 rfl rfl ?_
  refine xi_getfield (pc' := 22) (v := .ref 158) kc_67_19 rfl rfl rfl e115 rfl ?_
  refine xi_iload_n (pc' := 23) (x := 11) kc_67_22 rfl rfl ?_
  refine xi_iaload (pc' := 24) (v := 2) kc_67_23 rfl e158 (by decide) rfl (xi_in (n := 24) (by decide) (by decide)) rfl ?_
  refine xi_iconst (pc' := 25) (v := 1) kc_67_24 rfl rfl ?_
  refine xi_cmt (pc' := 51) kc_67_25 rfl rfl ?_
  refine xi_iconst (pc' := 52) (v := 0) kc_67_51 rfl rfl ?_
  refine xi_iadd (pc' := 53) (v := 0) kc_67_52 rfl rfl ?_
  refine xi_istore_n (pc' := 54) (lv' := [(1, .int 0), (3, .int 10), (2, .int 11), (0, .ref 115)]) kc_67_53 rfl rfl (xm_lt ml_67 rfl) ?_
  refine xi_iinc (pc' := 57) (x := 10) (v := 11) (lv' := [(3, .int 11), (1, .int 0), (2, .int 11), (0, .ref 115)]) kc_67_54 rfl rfl rfl rfl (xm_lt ml_67 rfl) ?_
  refine xi_goto (pc' := 12) kc_67_57 rfl ?_
  refine xi_iload_n (pc' := 13) (x := 11) kc_67_12 rfl rfl ?_
  refine xi_iload_n (pc' := 14) (x := 11) kc_67_13 rfl rfl ?_
  refine xi_cmt (pc' := 60) kc_67_14 rfl rfl ?_
  refine xi_iinc (pc' := 63) (x := 11) (v := 12) (lv' := [(2, .int 12), (3, .int 11), (1, .int 0), (0, .ref 115)]) kc_67_60 rfl rfl rfl rfl (xm_lt ml_67 rfl) ?_
  refine xi_goto (pc' := 4) kc_67_63 rfl ?_
  refine xi_iload_n (pc' := 5) (x := 12) kc_67_4 rfl rfl ?_
  refine xi_bipush (pc' := 7) (v := 24) kc_67_5 rfl rfl ?_
  refine xi_cmf (pc' := 10) kc_67_7 rfl rfl ?_
  refine xi_iconst (pc' := 11) (v := 0) kc_67_10 rfl rfl ?_
  refine xi_istore_n (pc' := 12) (lv' := [(3, .int 0), (2, .int 12), (1, .int 0), (0, .ref 115)]) kc_67_11 rfl rfl (xm_lt ml_67 rfl) ?_
  refine xi_iload_n (pc' := 13) (x := 0) kc_67_12 rfl rfl ?_
  refine xi_iload_n (pc' := 14) (x := 12) kc_67_13 rfl rfl ?_
  refine xi_cmf (pc' := 17) kc_67_14 rfl rfl ?_
  refine xi_iload_n (pc' := 18) (x := 0) kc_67_17 rfl rfl ?_
  refine xi_aload_n (pc' := 19) (x := 115) kc_67_18 rfl rfl ?_
  refine xi_getfield (pc' := 22) (v := .ref 158) kc_67_19 rfl rfl rfl e115 rfl ?_
  refine xi_iload_n (pc' := 23) (x := 12) kc_67_22 rfl rfl ?_
  refine xi_iaload (pc' := 24) (v := 2) kc_67_23 rfl e158 (by decide) rfl (xi_in (n := 24) (by decide) (by decide)) rfl ?_
  refine xi_iconst (pc' := 25) (v := 1) kc_67_24 rfl rfl ?_
  refine xi_cmt (pc' := 51) kc_67_25 rfl rfl ?_
  refine xi_iconst (pc' := 52) (v := 0) kc_67_51 rfl rfl ?_
  refine xi_iadd (pc' := 53) (v := 0) kc_67_52 rfl rfl ?_
  refine xi_istore_n (pc' := 54) (lv' := [(1, .int 0), (3, .int 0), (2, .int 12), (0, .ref 115)]) kc_67_53 rfl rfl (xm_lt ml_67 rfl) ?_
  refine xi_iinc (pc' := 57) (x := 0) (v := 1) (lv' := [(3, .int 1), (1, .int 0), (2, .int 12), (0, .ref 115)]) kc_67_54 rfl rfl rfl rfl (xm_lt ml_67 rfl) ?_
  refine xi_goto (pc' := 12) kc_67_57 rfl ?_
  refine xi_iload_n (pc' := 13) (x := 1) kc_67_12 rfl rfl ?_
  refine xi_iload_n (pc' := 14) (x := 12) kc_67_13 rfl rfl ?_
  refine xi_cmf (pc' := 17) kc_67_14 rfl rfl ?_
  refine xi_iload_n (pc' := 18) (x := 0) kc_67_17 rfl rfl ?_
  refine xi_aload_n (pc' := 19) (x := 115) kc_67_18 rfl rfl ?_
  refine xi_getfield (pc' := 22) (v := .ref 158) kc_67_19 rfl rfl rfl e115 rfl ?_
  refine xi_iload_n (pc' := 23) (x := 12) kc_67_22 rfl rfl ?_
  refine xi_iaload (pc' := 24) (v := 2) kc_67_23 rfl e158 (by decide) rfl (xi_in (n := 24) (by decide) (by decide)) rfl ?_
  refine xi_iconst (pc' := 25) (v := 1) kc_67_24 rfl rfl ?_
  refine xi_cmt (pc' := 51) kc_67_25 rfl rfl ?_
  refine xi_iconst (pc' := 52) (v := 0) kc_67_51 rfl rfl ?_
  refine xi_iadd (pc' := 53) (v := 0) kc_67_52 rfl rfl ?_
  refine xi_istore_n (pc' := 54) (lv' := [(1, .int 0), (3, .int 1), (2, .int 12), (0, .ref 115)]) kc_67_53 rfl rfl (xm_lt ml_67 rfl) ?_
  refine xi_iinc (pc' := 57) (x := 1) (v := 2) (lv' := [(3, .int 2), (1, .int 0), (2, .int 12), (0, .ref 115)]) kc_67_54 rfl rfl rfl rfl (xm_lt ml_67 rfl) ?_
  refine xi_goto (pc' := 12) kc_67_57 rfl ?_
  refine xi_iload_n (pc' := 13) (x := 2) kc_67_12 rfl rfl ?_
  refine xi_iload_n (pc' := 14) (x := 12) kc_67_13 rfl rfl ?_
  refine xi_cmf (pc' := 17) kc_67_14 rfl rfl ?_
  refine xi_iload_n (pc' := 18) (x := 0) kc_67_17 rfl rfl ?_
  refine xi_aload_n (pc' := 19) (x := 115) kc_67_18 rfl rfl ?_
  refine xi_getfield (pc' := 22) (v := .ref 158) kc_67_19 rfl rfl rfl e115 rfl ?_
  refine xi_iload_n (pc' := 23) (x := 12) kc_67_22 rfl rfl ?_
  refine xi_iaload (pc' := 24) (v := 2) kc_67_23 rfl e158 (by decide) rfl (xi_in (n := 24) (by decide) (by decide)) rfl ?_
  refine xi_iconst (pc' := 25) (v := 1) kc_67_24 rfl rfl ?_
  refine xi_cmt (pc' := 51) kc_67_25 rfl rfl ?_
  refine xi_iconst (pc' := 52) (v := 0) kc_67_51 rfl rfl ?_
  refine xi_iadd (pc' := 53) (v := 0) kc_67_52 rfl rfl ?_
  refine xi_istore_n (pc' := 54) (lv' := [(1, .int 0), (3, .int 2), (2, .int 12), (0, .ref 115)]) kc_67_53 rfl rfl (xm_lt ml_67 rfl) ?_
  refine xi_iinc (pc' := 57) (x := 2) (v := 3) (lv' := [(3, .int 3), (1, .int 0), (2, .int 12), (0, .ref 115)]) kc_67_54 rfl rfl rfl rfl (xm_lt ml_67 rfl) ?_
  refine xi_goto (pc' := 12) kc_67_57 rfl ?_
  refine xi_iload_n (pc' := 13) (x := 3) kc_67_12 rfl rfl ?_
  refine xi_iload_n (pc' := 14) (x := 12) kc_67_13 rfl rfl ?_
  refine xi_cmf (pc' := 17) kc_67_14 rfl rfl ?_
  refine xi_iload_n (pc' := 18) (x := 0) kc_67_17 rfl rfl ?_
  refine xi_aload_n (pc' := 19) (x := 115) kc_67_18 rfl rfl ?_
  refine xi_getfield (pc' := 22) (v := .ref 158) kc_67_19 rfl rfl rfl e115 rfl ?_
  refine xi_iload_n (pc' := 23) (x := 12) kc_67_22 rfl rfl ?_
  refine xi_iaload (pc' := 24) (v := 2) kc_67_23 rfl e158 (by decide) rfl (xi_in (n := 24) (by decide) (by decide)) rfl ?_
  refine xi_iconst (pc' := 25) (v := 1) kc_67_24 rfl rfl ?_
  refine xi_cmt (pc' := 51) kc_67_25 rfl rfl ?_
  refine xi_iconst (pc' := 52) (v := 0) kc_67_51 rfl rfl ?_
  refine xi_iadd (pc' := 53) (v := 0) kc_67_52 rfl rfl ?_
  refine xi_istore_n (pc' := 54) (lv' := [(1, .int 0), (3, .int 3), (2, .int 12), (0, .ref 115)]) kc_67_53 rfl rfl (xm_lt ml_67 rfl) ?_
  refine xi_iinc (pc' := 57) (x := 3) (v := 4) (lv' := [(3, .int 4), (1, .int 0), (2, .int 12), (0, .ref 115)]) kc_67_54 rfl rfl rfl rfl (xm_lt ml_67 rfl) ?_
  refine xi_goto (pc' := 12) kc_67_57 rfl ?_
  refine xi_iload_n (pc' := 13) (x := 4) kc_67_12 rfl rfl ?_
  refine xi_iload_n (pc' := 14) (x := 12) kc_67_13 rfl rfl ?_
  refine xi_cmf (pc' := 17) kc_67_14 rfl rfl ?_
  refine xi_iload_n (pc' := 18) (x := 0) kc_67_17 rfl rfl ?_
  refine xi_aload_n (pc' := 19) (x := 115) kc_67_18 rfl rfl ?_
  refine xi_getfield (pc' := 22) (v := .ref 158) kc_67_19 rfl rfl rfl e115 rfl ?_
  refine xi_iload_n (pc' := 23) (x := 12) kc_67_22 rfl rfl ?_
  refine xi_iaload (pc' := 24) (v := 2) kc_67_23 rfl e158 (by decide) rfl (xi_in (n := 24) (by decide) (by decide)) rfl ?_
  refine xi_iconst (pc' := 25) (v := 1) kc_67_24 rfl rfl ?_
  refine xi_cmt (pc' := 51) kc_67_25 rfl rfl ?_
  refine xi_iconst (pc' := 52) (v := 0) kc_67_51 rfl rfl ?_
  refine xi_iadd (pc' := 53) (v := 0) kc_67_52 rfl rfl ?_
  refine xi_istore_n (pc' := 54) (lv' := [(1, .int 0), (3, .int 4), (2, .int 12), (0, .ref 115)]) kc_67_53 rfl rfl (xm_lt ml_67 rfl) ?_
  refine xi_iinc (pc' := 57) (x := 4) (v := 5) (lv' := [(3, .int 5), (1, .int 0), (2, .int 12), (0, .ref 115)]) kc_67_54 rfl rfl rfl rfl (xm_lt ml_67 rfl) ?_
  refine xi_goto (pc' := 12) kc_67_57 rfl ?_
  refine xi_iload_n (pc' := 13) (x := 5) kc_67_12 rfl rfl ?_
  refine xi_iload_n (pc' := 14) (x := 12) kc_67_13 rfl rfl ?_
  refine xi_cmf (pc' := 17) kc_67_14 rfl rfl ?_
  refine xi_iload_n (pc' := 18) (x := 0) kc_67_17 rfl rfl ?_
  refine xi_aload_n (pc' := 19) (x := 115) kc_67_18 rfl rfl ?_
  refine xi_getfield (pc' := 22) (v := .ref 158) kc_67_19 rfl rfl rfl e115 rfl ?_
  refine xi_iload_n (pc' := 23) (x := 12) kc_67_22 rfl rfl ?_
  refine xi_iaload (pc' := 24) (v := 2) kc_67_23 rfl e158 (by decide) rfl (xi_in (n := 24) (by decide) (by decide)) rfl ?_
  refine xi_iconst (pc' := 25) (v := 1) kc_67_24 rfl rfl ?_
  refine xi_cmt (pc' := 51) kc_67_25 rfl rfl ?_
  refine xi_iconst (pc' := 52) (v := 0) kc_67_51 rfl rfl ?_
  refine xi_iadd (pc' := 53) (v := 0) kc_67_52 rfl rfl ?_
  refine xi_istore_n (pc' := 54) (lv' := [(1, .int 0), (3, .int 5), (2, .int 12), (0, .ref 115)]) kc_67_53 rfl rfl (xm_lt ml_67 rfl) ?_
  refine xi_iinc (pc' := 57) (x := 5) (v := 6) (lv' := [(3, .int 6), (1, .int 0), (2, .int 12), (0, .ref 115)]) kc_67_54 rfl rfl rfl rfl (xm_lt ml_67 rfl) ?_
  refine xi_goto (pc' := 12) kc_67_57 rfl ?_
  refine xi_iload_n (pc' := 13) (x := 6) kc_67_12 rfl rfl ?_
  refine xi_iload_n (pc' := 14) (x := 12) kc_67_13 rfl rfl ?_
  refine xi_cmf (pc' := 17) kc_67_14 rfl rfl ?_
  refine xi_iload_n (pc' := 18) (x := 0) kc_67_17 rfl rfl ?_
  refine xi_aload_n (pc' := 19) (x := 115) kc_67_18 rfl rfl ?_
  refine xi_getfield (pc' := 22) (v := .ref 158) kc_67_19 rfl rfl rfl e115 rfl ?_
  refine xi_iload_n (pc' := 23) (x := 12) kc_67_22 rfl rfl ?_
  refine xi_iaload (pc' := 24) (v := 2) kc_67_23 rfl e158 (by decide) rfl (xi_in (n := 24) (by decide) (by decide)) rfl ?_
  refine xi_iconst (pc' := 25) (v := 1) kc_67_24 rfl rfl ?_
  refine xi_cmt (pc' := 51) kc_67_25 rfl rfl ?_
  refine xi_iconst (pc' := 52) (v := 0) kc_67_51 rfl rfl ?_
  refine xi_iadd (pc' := 53) (v := 0) kc_67_52 rfl rfl ?_
  refine xi_istore_n (pc' := 54) (lv' := [(1, .int 0), (3, .int 6), (2, .int 12), (0, .ref 115)]) kc_67_53 rfl rfl (xm_lt ml_67 rfl) ?_
  refine xi_iinc (pc' := 57) (x := 6) (v := 7) (lv' := [(3, .int 7), (1, .int 0), (2, .int 12), (0, .ref 115)]) kc_67_54 rfl rfl rfl rfl (xm_lt ml_67 rfl) ?_
  refine xi_goto (pc' := 12) kc_67_57 rfl ?_
  refine xi_iload_n (pc' := 13) (x := 7) kc_67_12 rfl rfl ?_
  refine xi_iload_n (pc' := 14) (x := 12) kc_67_13 rfl rfl ?_
  refine xi_cmf (pc' := 17) kc_67_14 rfl rfl ?_
  refine xi_iload_n (pc' := 18) (x := 0) kc_67_17 rfl rfl ?_
  refine xi_aload_n (pc' := 19) (x := 115) kc_67_18 rfl rfl ?_
  refine xi_getfield (pc' := 22) (v := .ref 158) kc_67_19 rfl rfl rfl e115 rfl ?_
  refine xi_iload_n (pc' := 23) (x := 12) kc_67_22 rfl rfl ?_
  refine xi_iaload (pc' := 24) (v := 2) kc_67_23 rfl e158 (by decide) rfl (xi_in (n := 24) (by decide) (by decide)) rfl ?_
  refine xi_iconst (pc' := 25) (v := 1) kc_67_24 rfl rfl ?_
  refine xi_cmt (pc' := 51) kc_67_25 rfl rfl ?_
  refine xi_iconst (pc' := 52) (v := 0) kc_67_51 rfl rfl ?_
  refine xi_iadd (pc' := 53) (v := 0) kc_67_52 rfl rfl ?_
  refine xi_istore_n (pc' := 54) (lv' := [(1, .int 0), (3, .int 7), (2, .int 12), (0, .ref 115)]) kc_67_53 rfl rfl (xm_lt ml_67 rfl) ?_
  refine xi_iinc (pc' := 57) (x := 7) (v := 8) (lv' := [(3, .int 8), (1, .int 0), (2, .int 12), (0, .ref 115)]) kc_67_54 rfl rfl rfl rfl (xm_lt ml_67 rfl) ?_
  refine xi_goto (pc' := 12) kc_67_57 rfl ?_
  refine xi_iload_n (pc' := 13) (x := 8) kc_67_12 rfl rfl ?_
  refine xi_iload_n (pc' := 14) (x := 12) kc_67_13 rfl rfl ?_
  refine xi_cmf (pc' := 17) kc_67_14 rfl rfl ?_
  refine xi_iload_n (pc' := 18) (x := 0) kc_67_17 rfl rfl ?_
  refine xi_aload_n (pc' := 19) (x := 115) kc_67_18 rfl rfl ?_
  refine xi_getfield (pc' := 22) (v := .ref 158) kc_67_19 rfl rfl rfl e115 rfl ?_
  refine xi_iload_n (pc' := 23) (x := 12) kc_67_22 rfl rfl ?_
  refine xi_iaload (pc' := 24) (v := 2) kc_67_23 rfl e158 (by decide) rfl (xi_in (n := 24) (by decide) (by decide)) rfl ?_
  refine xi_iconst (pc' := 25) (v := 1) kc_67_24 rfl rfl ?_
  refine xi_cmt (pc' := 51) kc_67_25 rfl rfl ?_
  refine xi_iconst (pc' := 52) (v := 0) kc_67_51 rfl rfl ?_
  refine xi_iadd (pc' := 53) (v := 0) kc_67_52 rfl rfl ?_
  refine xi_istore_n (pc' := 54) (lv' := [(1, .int 0), (3, .int 8), (2, .int 12), (0, .ref 115)]) kc_67_53 rfl rfl (xm_lt ml_67 rfl) ?_
  refine xi_iinc (pc' := 57) (x := 8) (v := 9) (lv' := [(3, .int 9), (1, .int 0), (2, .int 12), (0, .ref 115)]) kc_67_54 rfl rfl rfl rfl (xm_lt ml_67 rfl) ?_
  refine xi_goto (pc' := 12) kc_67_57 rfl ?_
  refine xi_iload_n (pc' := 13) (x := 9) kc_67_12 rfl rfl ?_
  refine xi_iload_n (pc' := 14) (x := 12) kc_67_13 rfl rfl ?_
  refine xi_cmf (pc' := 17) kc_67_14 rfl rfl ?_
  refine xi_iload_n (pc' := 18) (x := 0) kc_67_17 rfl rfl ?_
  refine xi_aload_n (pc' := 19) (x := 115) kc_67_18 rfl rfl ?_
  refine xi_getfield (pc' := 22) (v := .ref 158) kc_67_19 rfl rfl rfl e115 rfl ?_
  refine xi_iload_n (pc' := 23) (x := 12) kc_67_22 rfl rfl ?_
  refine xi_iaload (pc' := 24) (v := 2) kc_67_23 rfl e158 (by decide) rfl (xi_in (n := 24) (by decide) (by decide)) rfl ?_
  refine xi_iconst (pc' := 25) (v := 1) kc_67_24 rfl rfl ?_
  refine xi_cmt (pc' := 51) kc_67_25 rfl rfl ?_
  refine xi_iconst (pc' := 52) (v := 0) kc_67_51 rfl rfl ?_
  refine xi_iadd (pc' := 53) (v := 0) kc_67_52 rfl rfl ?_
  refine xi_istore_n (pc' := 54) (lv' := [(1, .int 0), (3, .int 9), (2, .int 12), (0, .ref 115)]) kc_67_53 rfl rfl (xm_lt ml_67 rfl) ?_
  refine xi_iinc (pc' := 57) (x := 9) (v := 10) (lv' := [(3, .int 10), (1, .int 0), (2, .int 12), (0, .ref 115)]) kc_67_54 rfl rfl rfl rfl (xm_lt ml_67 rfl) ?_
  refine xi_goto (pc' := 12) kc_67_57 rfl ?_
  refine xi_iload_n (pc' := 13) (x := 10) kc_67_12 rfl rfl ?_
  refine xi_iload_n (pc' := 14) (x := 12) kc_67_13 rfl rfl ?_
  refine xi_cmf (pc' := 17) kc_67_14 rfl rfl ?_
  refine xi_iload_n (pc' := 18) (x := 0) kc_67_17 rfl rfl ?_
  refine xi_aload_n (pc' := 19) (x := 115) kc_67_18 rfl rfl ?_
  refine xi_getfield (pc' := 22) (v := .ref 158) kc_67_19 rfl rfl rfl e115 rfl ?_
  refine xi_iload_n (pc' := 23) (x := 12) kc_67_22 rfl rfl ?_
  refine xi_iaload (pc' := 24) (v := 2) kc_67_23 rfl e158 (by decide) rfl (xi_in (n := 24) (by decide) (by decide)) rfl ?_
  refine xi_iconst (pc' := 25) (v := 1) kc_67_24 rfl rfl ?_
  refine xi_cmt (pc' := 51) kc_67_25 rfl rfl ?_
  refine xi_iconst (pc' := 52) (v := 0) kc_67_51 rfl rfl ?_
  refine xi_iadd (pc' := 53) (v := 0) kc_67_52 rfl rfl ?_
  refine xi_istore_n (pc' := 54) (lv' := [(1, .int 0), (3, .int 10), (2, .int 12), (0, .ref 115)]) kc_67_53 rfl rfl (xm_lt ml_67 rfl) ?_
  refine xi_iinc (pc' := 57) (x := 10) (v := 11) (lv' := [(3, .int 11), (1, .int 0), (2, .int 12), (0, .ref 115)]) kc_67_54 rfl rfl rfl rfl (xm_lt ml_67 rfl) ?_
  refine xi_goto (pc' := 12) kc_67_57 rfl ?_
  refine xi_iload_n (pc' := 13) (x := 11) kc_67_12 rfl rfl ?_
  refine xi_iload_n (pc' := 14) (x := 12) kc_67_13 rfl rfl ?_
  refine xi_cmf (pc' := 17) kc_67_14 rfl rfl ?_
  refine xi_iload_n (pc' := 18) (x := 0) kc_67_17 rfl rfl ?_
  refine xi_aload_n (pc' := 19) (x := 115) kc_67_18 rfl rfl ?_
  refine xi_getfield (pc' := 22) (v := .ref 158) kc_67_19 rfl rfl rfl e115 rfl ?_
  refine xi_iload_n (pc' := 23) (x := 12) kc_67_22 rfl rfl ?_
  refine xi_iaload (pc' := 24) (v := 2) kc_67_23 rfl e158 (by decide) rfl (xi_in (n := 24) (by decide) (by decide)) rfl ?_
  refine xi_iconst (pc' := 25) (v := 1) kc_67_24 rfl rfl ?_
  refine xi_cmt (pc' := 51) kc_67_25 rfl rfl ?_
  refine xi_iconst (pc' := 52) (v := 0) kc_67_51 rfl rfl ?_
  refine xi_iadd (pc' := 53) (v := 0) kc_67_52 rfl rfl ?_
  refine xi_istore_n (pc' := 54) (lv' := [(1, .int 0), (3, .int 11), (2, .int 12), (0, .ref 115)]) kc_67_53 rfl rfl (xm_lt ml_67 rfl) ?_
  refine xi_iinc (pc' := 57) (x := 11) (v := 12) (lv' := [(3, .int 12), (1, .int 0), (2, .int 12), (0, .ref 115)]) kc_67_54 rfl rfl rfl rfl (xm_lt ml_67 rfl) ?_
  refine xi_goto (pc' := 12) kc_67_57 rfl ?_
  refine xi_iload_n (pc' := 13) (x := 12) kc_67_12 rfl rfl ?_
  refine xi_iload_n (pc' := 14) (x := 12) kc_67_13 rfl rfl ?_
  refine xi_cmt (pc' := 60) kc_67_14 rfl rfl ?_
  refine xi_iinc (pc' := 63) (x := 12) (v := 13) (lv' := [(2, .int 13), (3, .int 12), (1, .int 0), (0, .ref 115)]) kc_67_60 rfl rfl rfl rfl (xm_lt ml_67 rfl) ?_
  refine xi_goto (pc' := 4) kc_67_63 rfl ?_
  refine xi_iload_n (pc' := 5) (x := 13) kc_67_4 rfl rfl ?_
  refine xi_bipush (pc' := 7) (v := 24) kc_67_5 rfl rfl ?_
  refine xi_cmf (pc' := 10) kc_67_7 rfl rfl ?_
  refine xi_iconst (pc' := 11) (v := 0) kc_67_10 rfl rfl ?_
  refine xi_istore_n (pc' := 12) (lv' := [(3, .int 0), (2, .int 13), (1, .int 0), (0, .ref 115)]) kc_67_11 rfl rfl (xm_lt ml_67 rfl) ?_
  refine xi_iload_n (pc' := 13) (x := 0) kc_67_12 rfl rfl ?_
  refine xi_iload_n (pc' := 14) (x := 13) kc_67_13 rfl rfl ?_
  refine xi_cmf (pc' := 17) kc_67_14 rfl rfl ?_
  refine xi_iload_n (pc' := 18) (x := 0) kc_67_17 rfl rfl ?_
  refine xi_aload_n (pc' := 19) (x := 115) kc_67_18 rfl rfl ?_
  refine xi_getfield (pc' := 22) (v := .ref 158) kc_67_19 rfl rfl rfl e115 rfl ?_
  refine xi_iload_n (pc' := 23) (x := 13) kc_67_22 rfl rfl ?_
  refine xi_iaload (pc' := 24) (v := 2) kc_67_23 rfl e158 (by decide) rfl (xi_in (n := 24) (by decide) (by decide)) rfl ?_
  refine xi_iconst (pc' := 25) (v := 1) kc_67_24 rfl rfl ?_
  refine xi_cmt (pc' := 51) kc_67_25 rfl rfl ?_
  refine xi_iconst (pc' := 52) (v := 0) kc_67_51 rfl rfl ?_
  refine xi_iadd (pc' := 53) (v := 0) kc_67_52 rfl rfl ?_
  refine xi_istore_n (pc' := 54) (lv' := [(1, .int 0), (3, .int 0), (2, .int 13), (0, .ref 115)]) kc_67_53 rfl rfl (xm_lt ml_67 rfl) ?_
  refine xi_iinc (pc' := 57) (x := 0) (v := 1) (lv' := [(3, .int 1), (1, .int 0), (2, .int 13), (0, .ref 115)]) kc_67_54 rfl rfl rfl rfl (xm_lt ml_67 rfl) ?_
  refine xi_goto (pc' := 12) kc_67_57 rfl ?_
  refine xi_iload_n (pc' := 13) (x := 1) kc_67_12 rfl rfl ?_
  refine xi_iload_n (pc' := 14) (x := 13) kc_67_13 rfl rfl ?_
  refine xi_cmf (pc' := 17) kc_67_14 rfl rfl ?_
  refine xi_iload_n (pc' := 18) (x := 0) kc_67_17 rfl rfl ?_
  refine xi_aload_n (pc' := 19) (x := 115) kc_67_18 rfl rfl ?_
  refine xi_getfield (pc' := 22) (v := .ref 158) kc_67_19 rfl rfl rfl e115 rfl ?_
  refine xi_iload_n (pc' := 23) (x := 13) kc_67_22 rfl rfl ?_
  refine xi_iaload (pc' := 24) (v := 2) kc_67_23 rfl e158 (by decide) rfl (xi_in (n := 24) (by decide) (by decide)) rfl ?_
  refine xi_iconst (pc' := 25) (v := 1) kc_67_24 rfl rfl ?_
  refine xi_cmt (pc' := 51) kc_67_25 rfl rfl ?_
  refine xi_iconst (pc' := 52) (v := 0) kc_67_51 rfl rfl ?_
  refine xi_iadd (pc' := 53) (v := 0) kc_67_52 rfl rfl ?_
  refine xi_istore_n (pc' := 54) (lv' := [(1, .int 0), (3, .int 1), (2, .int 13), (0, .ref 115)]) kc_67_53 rfl rfl (xm_lt ml_67 rfl) ?_
  refine xi_iinc (pc' := 57) (x := 1) (v := 2) (lv' := [(3, .int 2), (1, .int 0), (2, .int 13), (0, .ref 115)]) kc_67_54 rfl rfl rfl rfl (xm_lt ml_67 rfl) ?_
  refine xi_goto (pc' := 12) kc_67_57 rfl ?_
  refine xi_iload_n (pc' := 13) (x := 2) kc_67_12 rfl rfl ?_
  refine xi_iload_n (pc' := 14) (x := 13) kc_67_13 rfl rfl ?_
  refine xi_cmf (pc' := 17) kc_67_14 rfl rfl ?_
  refine xi_iload_n (pc' := 18) (x := 0) kc_67_17 rfl rfl ?_
  refine xi_aload_n (pc' := 19) (x := 115) kc_67_18 rfl rfl ?_
  refine xi_getfield (pc' := 22) (v := .ref 158) kc_67_19 rfl rfl rfl e115 rfl ?_
  refine xi_iload_n (pc' := 23) (x := 13) kc_67_22 rfl rfl ?_
  refine xi_iaload (pc' := 24) (v := 2) kc_67_23 rfl e158 (by decide) rfl (xi_in (n := 24) (by decide) (by decide)) rfl ?_
  refine xi_iconst (pc' := 25) (v := 1) kc_67_24 rfl rfl ?_
  refine xi_cmt (pc' := 51) kc_67_25 rfl rfl ?_
  refine xi_iconst (pc' := 52) (v := 0) kc_67_51 rfl rfl ?_
  refine xi_iadd (pc' := 53) (v := 0) kc_67_52 rfl rfl ?_
  refine xi_istore_n (pc' := 54) (lv' := [(1, .int 0), (3, .int 2), (2, .int 13), (0, .ref 115)]) kc_67_53 rfl rfl (xm_lt ml_67 rfl) ?_
  refine xi_iinc (pc' := 57) (x := 2) (v := 3) (lv' := [(3, .int 3), (1, .int 0), (2, .int 13), (0, .ref 115)]) kc_67_54 rfl rfl rfl rfl (xm_lt ml_67 rfl) ?_
  refine xi_goto (pc' := 12) kc_67_57 rfl ?_
  refine xi_iload_n (pc' := 13) (x := 3) kc_67_12 rfl rfl ?_
  refine xi_iload_n (pc' := 14) (x := 13) kc_67_13 rfl rfl ?_
  refine xi_cmf (pc' := 17) kc_67_14 rfl rfl ?_
  refine xi_iload_n (pc' := 18) (x := 0) kc_67_17 rfl rfl ?_
  refine xi_aload_n (pc' := 19) (x := 115) kc_67_18 rfl rfl ?_
  refine xi_getfield (pc' := 22) (v := .ref 158) kc_67_19 rfl rfl rfl e115 rfl ?_
  refine xi_iload_n (pc' := 23) (x := 13) kc_67_22 rfl rfl ?_
  refine xi_iaload (pc' := 24) (v := 2) kc_67_23 rfl e158 (by decide) rfl (xi_in (n := 24) (by decide) (by decide)) rfl ?_
  refine xi_iconst (pc' := 25) (v := 1) kc_67_24 rfl rfl ?_
  refine xi_cmt (pc' := 51) kc_67_25 rfl rfl ?_
  refine xi_iconst (pc' := 52) (v := 0) kc_67_51 rfl rfl ?_
  refine xi_iadd (pc' := 53) (v := 0) kc_67_52 rfl rfl ?_
  refine xi_istore_n (pc' := 54) (lv' := [(1, .int 0), (3, .int 3), (2, .int 13), (0, .ref 115)]) kc_67_53 rfl rfl (xm_lt ml_67 rfl) ?_
  refine xi_iinc (pc' := 57) (x := 3) (v := 4) (lv' := [(3, .int 4), (1, .int 0), (2, .int 13), (0, .ref 115)]) kc_67_54 rfl rfl rfl rfl (xm_lt ml_67 rfl) ?_
  refine xi_goto (pc' := 12) kc_67_57 rfl ?_
  refine xi_iload_n (pc' := 13) (x := 4) kc_67_12 rfl rfl ?_
  refine xi_iload_n (pc' := 14) (x := 13) kc_67_13 rfl rfl ?_
  refine xi_cmf (pc' := 17) kc_67_14 rfl rfl ?_
  refine xi_iload_n (pc' := 18) (x := 0) kc_67_17 rfl rfl ?_
  refine xi_aload_n (pc' := 19) (x := 115) kc_67_18 rfl rfl ?_
  refine xi_getfield (pc' := 22) (v := .ref 158) kc_67_19 rfl rfl rfl e115 rfl ?_
  refine xi_iload_n (pc' := 23) (x := 13) kc_67_22 rfl rfl ?_
  refine xi_iaload (pc' := 24) (v := 2) kc_67_23 rfl e158 (by decide) rfl (xi_in (n := 24) (by decide) (by decide)) rfl ?_
  refine xi_iconst (pc' := 25) (v := 1) kc_67_24 rfl rfl ?_
  refine xi_cmt (pc' := 51) kc_67_25 rfl rfl ?_
  refine xi_iconst (pc' := 52) (v := 0) kc_67_51 rfl rfl ?_
  refine xi_iadd (pc' := 53) (v := 0) kc_67_52 rfl rfl ?_
  refine xi_istore_n (pc' := 54) (lv' := [(1, .int 0), (3, .int 4), (2, .int 13), (0, .ref 115)]) kc_67_53 rfl rfl (xm_lt ml_67 rfl) ?_
  refine xi_iinc (pc' := 57) (x := 4) (v := 5) (lv' := [(3, .int 5), (1, .int 0), (2, .int 13), (0, .ref 115)]) kc_67_54 rfl rfl rfl rfl (xm_lt ml_67 rfl) ?_
  refine xi_goto (pc' := 12) kc_67_57 rfl ?_
  refine xi_iload_n (pc' := 13) (x := 5) kc_67_12 rfl rfl ?_
  refine xi_iload_n (pc' := 14) (x := 13) kc_67_13 rfl rfl ?_
  refine xi_cmf (pc' := 17) kc_67_14 rfl rfl ?_
  refine xi_iload_n (pc' := 18) (x := 0) kc_67_17 rfl rfl ?_
  refine xi_aload_n (pc' := 19) (x := 115) kc_67_18 rfl rfl ?_
  refine xi_getfield (pc' := 22) (v := .ref 158) kc_67_19 rfl rfl rfl e115 rfl ?_
  refine xi_iload_n (pc' := 23) (x := 13) kc_67_22 rfl rfl ?_
  refine xi_iaload (pc' := 24) (v := 2) kc_67_23 rfl e158 (by decide) rfl (xi_in (n := 24) (by decide) (by decide)) rfl ?_
  refine xi_iconst (pc' := 25) (v := 1) kc_67_24 rfl rfl ?_
  refine xi_cmt (pc' := 51) kc_67_25 rfl rfl ?_
  refine xi_iconst (pc' := 52) (v := 0) kc_67_51 rfl rfl ?_
  refine xi_iadd (pc' := 53) (v := 0) kc_67_52 rfl rfl ?_
  refine xi_istore_n (pc' := 54) (lv' := [(1, .int 0), (3, .int 5), (2, .int 13), (0, .ref 115)]) kc_67_53 rfl rfl (xm_lt ml_67 rfl) ?_
  refine xi_iinc (pc' := 57) (x := 5) (v := 6) (lv' := [(3, .int 6), (1, .int 0), (2, .int 13), (0, .ref 115)]) kc_67_54 rfl rfl rfl rfl (xm_lt ml_67 rfl) ?_
  refine xi_goto (pc' := 12) kc_67_57 rfl ?_
  refine xi_iload_n (pc' := 13) (x := 6) kc_67_12 rfl rfl ?_
  refine xi_iload_n (pc' := 14) (x := 13) kc_67_13 rfl rfl ?_
  refine xi_cmf (pc' := 17) kc_67_14 rfl rfl ?_
  refine xi_iload_n (pc' := 18) (x := 0) kc_67_17 rfl rfl ?_
  refine xi_aload_n (pc' := 19) (x := 115) kc_67_18 rfl rfl ?_
  refine xi_getfield (pc' := 22) (v := .ref 158) kc_67_19 rfl rfl rfl e115 rfl ?_
  refine xi_iload_n (pc' := 23) (x := 13) kc_67_22 rfl rfl ?_
  refine xi_iaload (pc' := 24) (v := 2) kc_67_23 rfl e158 (by decide) rfl (xi_in (n := 24) (by decide) (by decide)) rfl ?_
  refine xi_iconst (pc' := 25) (v := 1) kc_67_24 rfl rfl ?_
  refine xi_cmt (pc' := 51) kc_67_25 rfl rfl ?_
  refine xi_iconst (pc' := 52) (v := 0) kc_67_51 rfl rfl ?_
  refine xi_iadd (pc' := 53) (v := 0) kc_67_52 rfl rfl ?_
  refine xi_istore_n (pc' := 54) (lv' := [(1, .int 0), (3, .int 6), (2, .int 13), (0, .ref 115)]) kc_67_53 rfl rfl (xm_lt ml_67 rfl) ?_
  refine xi_iinc (pc' := 57) (x := 6) (v := 7) (lv' := [(3, .int 7), (1, .int 0), (2, .int 13), (0, .ref 115)]) kc_67_54 rfl rfl rfl rfl (xm_lt ml_67 rfl) ?_
  refine xi_goto (pc' := 12) kc_67_57 rfl ?_
  refine xi_iload_n (pc' := 13) (x := 7) kc_67_12 rfl rfl ?_
  refine xi_iload_n (pc' := 14) (x := 13) kc_67_13 rfl rfl ?_
  refine xi_cmf (pc' := 17) kc_67_14 rfl rfl ?_
  refine xi_iload_n (pc' := 18) (x := 0) kc_67_17 rfl rfl ?_
  refine xi_aload_n (pc' := 19) (x := 115) kc_67_18 rfl rfl ?_
  refine xi_getfield (pc' := 22) (v := .ref 158) kc_67_19 rfl rfl rfl e115 rfl ?_
  refine xi_iload_n (pc' := 23) (x := 13) kc_67_22 rfl rfl ?_
  refine xi_iaload (pc' := 24) (v := 2) kc_67_23 rfl e158 (by decide) rfl (xi_in (n := 24) (by decide) (by decide)) rfl ?_
  refine xi_iconst (pc' := 25) (v := 1) kc_67_24 rfl rfl ?_
  refine xi_cmt (pc' := 51) kc_67_25 rfl rfl ?_
  refine xi_iconst (pc' := 52) (v := 0) kc_67_51 rfl rfl ?_
  refine xi_iadd (pc' := 53) (v := 0) kc_67_52 rfl rfl ?_
  refine xi_istore_n (pc' := 54) (lv' := [(1, .int 0), (3, .int 7), (2, .int 13), (0, .ref 115)]) kc_67_53 rfl rfl (xm_lt ml_67 rfl) ?_
  refine xi_iinc (pc' := 57) (x := 7) (v := 8) (lv' := [(3, .int 8), (1, .int 0), (2, .int 13), (0, .ref 115)]) kc_67_54 rfl rfl rfl rfl (xm_lt ml_67 rfl) ?_
  refine xi_goto (pc' := 12) kc_67_57 rfl ?_
  refine xi_iload_n (pc' := 13) (x := 8) kc_67_12 rfl rfl ?_
  refine xi_iload_n (pc' := 14) (x := 13) kc_67_13 rfl rfl ?_
  refine xi_cmf (pc' := 17) kc_67_14 rfl rfl ?_
  refine xi_iload_n (pc' := 18) (x := 0) kc_67_17 rfl rfl ?_
  refine xi_aload_n (pc' := 19) (x := 115) kc_67_18 rfl rfl ?_
  refine xi_getfield (pc' := 22) (v := .ref 158) kc_67_19 rfl rfl rfl e115 rfl ?_
  refine xi_iload_n (pc' := 23) (x := 13) kc_67_22 rfl rfl ?_
  refine xi_iaload (pc' := 24) (v := 2) kc_67_23 rfl e158 (by decide) rfl (xi_in (n := 24) (by decide) (by decide)) rfl ?_
  refine xi_iconst (pc' := 25) (v := 1) kc_67_24 rfl rfl ?_
  refine xi_cmt (pc' := 51) kc_67_25 rfl rfl ?_
  refine xi_iconst (pc' := 52) (v := 0) kc_67_51 rfl rfl ?_
  refine xi_iadd (pc' := 53) (v := 0) kc_67_52 rfl rfl ?_
  refine xi_istore_n (pc' := 54) (lv' := [(1, .int 0), (3, .int 8), (2, .int 13), (0, .ref 115)]) kc_67_53 rfl rfl (xm_lt ml_67 rfl) ?_
  refine xi_iinc (pc' := 57) (x := 8) (v := 9) (lv' := [(3, .int 9), (1, .int 0), (2, .int 13), (0, .ref 115)]) kc_67_54 rfl rfl rfl rfl (xm_lt ml_67 rfl) ?_
  refine xi_goto (pc' := 12) kc_67_57 rfl ?_
  refine xi_iload_n (pc' := 13) (x := 9) kc_67_12 rfl rfl ?_
  refine xi_iload_n (pc' := 14) (x := 13) kc_67_13 rfl rfl ?_
  refine xi_cmf (pc' := 17) kc_67_14 rfl rfl ?_
  refine xi_iload_n (pc' := 18) (x := 0) kc_67_17 rfl rfl ?_
  refine xi_aload_n (pc' := 19) (x := 115) kc_67_18 rfl rfl ?_
  refine xi_getfield (pc' := 22) (v := .ref 158) kc_67_19 rfl rfl rfl e115 rfl ?_
  refine xi_iload_n (pc' := 23) (x := 13) kc_67_22 rfl rfl ?_
  refine xi_iaload (pc' := 24) (v := 2) kc_67_23 rfl e158 (by decide) rfl (xi_in (n := 24) (by decide) (by decide)) rfl ?_
  refine xi_iconst (pc' := 25) (v := 1) kc_67_24 rfl rfl ?_
  refine xi_cmt (pc' := 51) kc_67_25 rfl rfl ?_
  refine xi_iconst (pc' := 52) (v := 0) kc_67_51 rfl rfl ?_
  refine xi_iadd (pc' := 53) (v := 0) kc_67_52 rfl rfl ?_
  refine xi_istore_n (pc' := 54) (lv' := [(1, .int 0), (3, .int 9), (2, .int 13), (0, .ref 115)]) kc_67_53 rfl rfl (xm_lt ml_67 rfl) ?_
  refine xi_iinc (pc' := 57) (x := 9) (v := 10) (lv' := [(3, .int 10), (1, .int 0), (2, .int 13), (0, .ref 115)]) kc_67_54 rfl rfl rfl rfl (xm_lt ml_67 rfl) ?_
  refine xi_goto (pc' := 12) kc_67_57 rfl ?_
  refine xi_iload_n (pc' := 13) (x := 10) kc_67_12 rfl rfl ?_
  refine xi_iload_n (pc' := 14) (x := 13) kc_67_13 rfl rfl ?_
  refine xi_cmf (pc' := 17) kc_67_14 rfl rfl ?_
  refine xi_iload_n (pc' := 18) (x := 0) kc_67_17 rfl rfl ?_
  refine xi_aload_n (pc' := 19) (x := 115) kc_67_18 rfl rfl ?_
  refine xi_getfield (pc' := 22) (v := .ref 158) kc_67_19 rfl rfl rfl e115 rfl ?_
  refine xi_iload_n (pc' := 23) (x := 13) kc_67_22 rfl rfl ?_
  refine xi_iaload (pc' := 24) (v := 2) kc_67_23 rfl e158 (by decide) rfl (xi_in (n := 24) (by decide) (by decide)) rfl ?_
  refine xi_iconst (pc' := 25) (v := 1) kc_67_24 rfl rfl ?_
  refine xi_cmt (pc' := 51) kc_67_25 rfl rfl ?_
  refine xi_iconst (pc' := 52) (v := 0) kc_67_51 rfl rfl ?_
  refine xi_iadd (pc' := 53) (v := 0) kc_67_52 rfl rfl ?_
  refine xi_istore_n (pc' := 54) (lv' := [(1, .int 0), (3, .int 10), (2, .int 13), (0, .ref 115)]) kc_67_53 rfl rfl (xm_lt ml_67 rfl) ?_
  refine xi_iinc (pc' := 57) (x := 10) (v := 11) (lv' := [(3, .int 11), (1, .int 0), (2, .int 13), (0, .ref 115)]) kc_67_54 rfl rfl rfl rfl (xm_lt ml_67 rfl) ?_
  refine xi_goto (pc' := 12) kc_67_57 rfl ?_
  refine xi_iload_n (pc' := 13) (x := 11) kc_67_12 rfl rfl ?_
  refine xi_iload_n (pc' := 14) (x := 13) kc_67_13 rfl rfl ?_
  refine xi_cmf (pc' := 17) kc_67_14 rfl rfl ?_
  refine xi_iload_n (pc' := 18) (x := 0) kc_67_17 rfl rfl ?_
  refine xi_aload_n (pc' := 19) (x := 115) kc_67_18 rfl rfl ?_
  refine xi_getfield (pc' := 22) (v := .ref 158) kc_67_19 rfl rfl rfl e115 rfl ?_
  refine xi_iload_n (pc' := 23) (x := 13) kc_67_22 rfl rfl ?_
  refine xi_iaload (pc' := 24) (v := 2) kc_67_23 rfl e158 (by decide) rfl (xi_in (n := 24) (by decide) (by decide)) rfl ?_
  refine xi_iconst (pc' := 25) (v := 1) kc_67_24 rfl rfl ?_
  refine xi_cmt (pc' := 51) kc_67_25 rfl rfl ?_
  refine xi_iconst (pc' := 52) (v := 0) kc_67_51 rfl rfl ?_
  refine xi_iadd (pc' := 53) (v := 0) kc_67_52 rfl rfl ?_
  refine xi_istore_n (pc' := 54) (lv' := [(1, .int 0), (3, .int 11), (2, .int 13), (0, .ref 115)]) kc_67_53 rfl rfl (xm_lt ml_67 rfl) ?_
  refine xi_iinc (pc' := 57) (x := 11) (v := 12) (lv' := [(3, .int 12), (1, .int 0), (2, .int 13), (0, .ref 115)]) kc_67_54 rfl rfl rfl rfl (xm_lt ml_67 rfl) ?_
  refine xi_goto (pc' := 12) kc_67_57 rfl ?_
  refine xi_iload_n (pc' := 13) (x := 12) kc_67_12 rfl rfl ?_
  refine xi_iload_n (pc' := 14) (x := 13) kc_67_13 rfl rfl ?_
  refine xi_cmf (pc' := 17) kc_67_14 rfl rfl ?_
  refine xi_iload_n (pc' := 18) (x := 0) kc_67_17 rfl rfl ?_
  refine xi_aload_n (pc' := 19) (x := 115) kc_67_18 rfl rfl ?_
  refine xi_getfield (pc' := 22) (v := .ref 158) kc_67_19 rfl rfl rfl e115 rfl ?_
  refine xi_iload_n (pc' := 23) (x := 13) kc_67_22 rfl rfl ?_
  refine xi_iaload (pc' := 24) (v := 2) kc_67_23 rfl e158 (by decide) rfl (xi_in (n := 24) (by decide) (by decide)) rfl ?_
  refine xi_iconst (pc' := 25) (v := 1) kc_67_24 rfl rfl ?_
  refine xi_cmt (pc' := 51) kc_67_25 rfl rfl ?_
  refine xi_iconst (pc' := 52) (v := 0) kc_67_51 rfl rfl ?_
  refine xi_iadd (pc' := 53) (v := 0) kc_67_52 rfl rfl ?_
  refine xi_istore_n (pc' := 54) (lv' := [(1, .int 0), (3, .int 12), (2, .int 13), (0, .ref 115)]) kc_67_53 rfl rfl (xm_lt ml_67 rfl) ?_
  refine xi_iinc (pc' := 57) (x := 12) (v := 13) (lv' := [(3, .int 13), (1, .int 0), (2, .int 13), (0, .ref 115)]) kc_67_54 rfl rfl rfl rfl (xm_lt ml_67 rfl) ?_
  refine xi_goto (pc' := 12) kc_67_57 rfl ?_
  refine xi_iload_n (pc' := 13) (x := 13) kc_67_12 rfl rfl ?_
  refine xi_iload_n (pc' := 14) (x := 13) kc_67_13 rfl rfl ?_
  refine xi_cmt (pc' := 60) kc_67_14 rfl rfl ?_
  refine xi_iinc (pc' := 63) (x := 13) (v := 14) (lv' := [(2, .int 14), (3, .int 13), (1, .int 0), (0, .ref 115)]) kc_67_60 rfl rfl rfl rfl (xm_lt ml_67 rfl) ?_
  refine xi_goto (pc' := 4) kc_67_63 rfl ?_
  refine xi_iload_n (pc' := 5) (x := 14) kc_67_4 rfl rfl ?_
  refine xi_bipush (pc' := 7) (v := 24) kc_67_5 rfl rfl ?_
  refine xi_cmf (pc' := 10) kc_67_7 rfl rfl ?_
  refine xi_iconst (pc' := 11) (v := 0) kc_67_10 rfl rfl ?_
  refine xi_istore_n (pc' := 12) (lv' := [(3, .int 0), (2, .int 14), (1, .int 0), (0, .ref 115)]) kc_67_11 rfl rfl (xm_lt ml_67 rfl) ?_
  refine xi_iload_n (pc' := 13) (x := 0) kc_67_12 rfl rfl ?_
  refine xi_iload_n (pc' := 14) (x := 14) kc_67_13 rfl rfl ?_
  refine xi_cmf (pc' := 17) kc_67_14 rfl rfl ?_
  refine xi_iload_n (pc' := 18) (x := 0) kc_67_17 rfl rfl ?_
  refine xi_aload_n (pc' := 19) (x := 115) kc_67_18 rfl rfl ?_
  refine xi_getfield (pc' := 22) (v := .ref 158) kc_67_19 rfl rfl rfl e115 rfl ?_
  refine xi_iload_n (pc' := 23) (x := 14) kc_67_22 rfl rfl ?_
  refine xi_iaload (pc' := 24) (v := 2) kc_67_23 rfl e158 (by decide) rfl (xi_in (n := 24) (by decide) (by decide)) rfl ?_
  refine xi_iconst (pc' := 25) (v := 1) kc_67_24 rfl rfl ?_
  refine xi_cmt (pc' := 51) kc_67_25 rfl rfl ?_
  refine xi_iconst (pc' := 52) (v := 0) kc_67_51 rfl rfl ?_
  refine xi_iadd (pc' := 53) (v := 0) kc_67_52 rfl rfl ?_
  refine xi_istore_n (pc' := 54) (lv' := [(1, .int 0), (3, .int 0), (2, .int 14), (0, .ref 115)]) kc_67_53 rfl rfl (xm_lt ml_67 rfl) ?_
  refine xi_iinc (pc' := 57) (x := 0) (v := 1) (lv' := [(3, .int 1), (1, .int 0), (2, .int 14), (0, .ref 115)]) kc_67_54 rfl rfl rfl rfl (xm_lt ml_67 rfl) ?_
  refine xi_goto (pc' := 12) kc_67_57 rfl ?_
  refine xi_iload_n (pc' := 13) (x := 1) kc_67_12 rfl rfl ?_
  refine xi_iload_n (pc' := 14) (x := 14) kc_67_13 rfl rfl ?_
  refine xi_cmf (pc' := 17) kc_67_14 rfl rfl ?_
  refine xi_iload_n (pc' := 18) (x := 0) kc_67_17 rfl rfl ?_
  refine xi_aload_n (pc' := 19) (x := 115) kc_67_18 rfl rfl ?_
  refine xi_getfield (pc' := 22) (v := .ref 158) kc_67_19 rfl rfl rfl e115 rfl ?_
  refine xi_iload_n (pc' := 23) (x := 14) kc_67_22 rfl rfl ?_
  refine xi_iaload (pc' := 24) (v := 2) kc_67_23 rfl e158 (by decide) rfl (xi_in (n := 24) (by decide) (by decide)) rfl ?_
  refine xi_iconst (pc' := 25) (v := 1) kc_67_24 rfl rfl ?_
  refine xi_cmt (pc' := 51) kc_67_25 rfl rfl ?_
  refine xi_iconst (pc' := 52) (v := 0) kc_67_51 rfl rfl ?_
  refine xi_iadd (pc' := 53) (v := 0) kc_67_52 rfl rfl ?_
  refine xi_istore_n (pc' := 54) (lv' := [(1, .int 0), (3, .int 1), (2, .int 14), (0, .ref 115)]) kc_67_53 rfl rfl (xm_lt ml_67 rfl) ?_
  refine xi_iinc (pc' := 57) (x := 1) (v := 2) (lv' := [(3, .int 2), (1, .int 0), (2, .int 14), (0, .ref 115)]) kc_67_54 rfl rfl rfl rfl (xm_lt ml_67 rfl) ?_
  refine xi_goto (pc' := 12) kc_67_57 rfl ?_
  refine xi_iload_n (pc' := 13) (x := 2) kc_67_12 rfl rfl ?_
  refine xi_iload_n (pc' := 14) (x := 14) kc_67_13 rfl rfl ?_
  refine xi_cmf (pc' := 17) kc_67_14 rfl rfl ?_
  refine xi_iload_n (pc' := 18) (x := 0) kc_67_17 rfl rfl ?_
  refine xi_aload_n (pc' := 19) (x := 115) kc_67_18 rfl rfl ?_
  refine xi_getfield (pc' := 22) (v := .ref 158) kc_67_19 rfl rfl rfl e115 rfl ?_
  refine xi_iload_n (pc' := 23) (x := 14) kc_67_22 rfl rfl ?_
  refine xi_iaload (pc' := 24) (v := 2) kc_67_23 rfl e158 (by decide) rfl (xi_in (n := 24) (by decide) (by decide)) rfl ?_
  refine xi_iconst (pc' := 25) (v := 1) kc_67_24 rfl rfl ?_
  refine xi_cmt (pc' := 51) kc_67_25 rfl rfl ?_
  refine xi_iconst (pc' := 52) (v := 0) kc_67_51 rfl rfl ?_
  refine xi_iadd (pc' := 53) (v := 0) kc_67_52 rfl rfl ?_
  refine xi_istore_n (pc' := 54) (lv' := [(1, .int 0), (3, .int 2), (2, .int 14), (0, .ref 115)]) kc_67_53 rfl rfl (xm_lt ml_67 rfl) ?_
  refine xi_iinc (pc' := 57) (x := 2) (v := 3) (lv' := [(3, .int 3), (1, .int 0), (2, .int 14), (0, .ref 115)]) kc_67_54 rfl rfl rfl rfl (xm_lt ml_67 rfl) ?_
  refine xi_goto (pc' := 12) kc_67_57 rfl ?_
  refine xi_iload_n (pc' := 13) (x := 3) kc_67_12 rfl rfl ?_
  refine xi_iload_n (pc' := 14) (x := 14) kc_67_13 rfl rfl ?_
  refine xi_cmf (pc' := 17) kc_67_14 rfl rfl ?_
  refine xi_iload_n (pc' := 18) (x := 0) kc_67_17 rfl rfl ?_
  refine xi_aload_n (pc' := 19) (x := 115) kc_67_18 rfl rfl ?_
  refine xi_getfield (pc' := 22) (v := .ref 158) kc_67_19 rfl rfl rfl e115 rfl ?_
  refine xi_iload_n (pc' := 23) (x := 14) kc_67_22 rfl rfl ?_
  refine xi_iaload (pc' := 24) (v := 2) kc_67_23 rfl e158 (by decide) rfl (xi_in (n := 24) (by decide) (by decide)) rfl ?_
  refine xi_iconst (pc' := 25) (v := 1) kc_67_24 rfl rfl ?_
  refine xi_cmt (pc' := 51) kc_67_25 rfl rfl ?_
  refine xi_iconst (pc' := 52) (v := 0) kc_67_51 rfl rfl ?_
  refine xi_iadd (pc' := 53) (v := 0) kc_67_52 rfl rfl ?_
  refine xi_istore_n (pc' := 54) (lv' := [(1, .int 0), (3, .int 3), (2, .int 14), (0, .ref 115)]) kc_67_53 rfl rfl (xm_lt ml_67 rfl) ?_
  refine xi_iinc (pc' := 57) (x := 3) (v := 4) (lv' := [(3, .int 4), (1, .int 0), (2, .int 14), (0, .ref 115)]) kc_67_54 rfl rfl rfl rfl (xm_lt ml_67 rfl) ?_
  refine xi_goto (pc' := 12) kc_67_57 rfl ?_
  refine xi_iload_n (pc' := 13) (x := 4) kc_67_12 rfl rfl ?_
  refine xi_iload_n (pc' := 14) (x := 14) kc_67_13 rfl rfl ?_
  refine xi_cmf (pc' := 17) kc_67_14 rfl rfl ?_
  refine xi_iload_n (pc' := 18) (x := 0) kc_67_17 rfl rfl ?_
  refine xi_aload_n (pc' := 19) (x := 115) kc_67_18 rfl rfl ?_
  refine xi_getfield (pc' := 22) (v := .ref 158) kc_67_19 rfl rfl rfl e115 rfl ?_
  refine xi_iload_n (pc' := 23) (x := 14) kc_67_22 rfl rfl ?_
  refine xi_iaload (pc' := 24) (v := 2) kc_67_23 rfl e158 (by decide) rfl (xi_in (n := 24) (by decide) (by decide)) rfl ?_
  refine xi_iconst (pc' := 25) (v := 1) kc_67_24 rfl rfl ?_
  refine xi_cmt (pc' := 51) kc_67_25 rfl rfl ?_
  refine xi_iconst (pc' := 52) (v := 0) kc_67_51 rfl rfl ?_
  refine xi_iadd (pc' := 53) (v := 0) kc_67_52 rfl rfl ?_
  refine xi_istore_n (pc' := 54) (lv' := [(1, .int 0), (3, .int 4), (2, .int 14), (0, .ref 115)]) kc_67_53 rfl rfl (xm_lt ml_67 rfl) ?_
  refine xi_iinc (pc' := 57) (x := 4) (v := 5) (lv' := [(3, .int 5), (1, .int 0), (2, .int 14), (0, .ref 115)]) kc_67_54 rfl rfl rfl rfl (xm_lt ml_67 rfl) ?_
  refine xi_goto (pc' := 12) kc_67_57 rfl ?_
  refine xi_iload_n (pc' := 13) (x := 5) kc_67_12 rfl rfl ?_
  refine xi_iload_n (pc' := 14) (x := 14) kc_67_13 rfl rfl ?_
  refine xi_cmf (pc' := 17) kc_67_14 rfl rfl ?_
  refine xi_iload_n (pc' := 18) (x := 0) kc_67_17 rfl rfl ?_
  refine xi_aload_n (pc' := 19) (x := 115) kc_67_18 rfl rfl ?_
  refine xi_getfield (pc' := 22) (v := .ref 158) kc_67_19 rfl rfl rfl e115 rfl ?_
  refine xi_iload_n (pc' := 23) (x := 14) kc_67_22 rfl rfl ?_
  refine xi_iaload (pc' := 24) (v := 2) kc_67_23 rfl e158 (by decide) rfl (xi_in (n := 24) (by decide) (by decide)) rfl ?_
  refine xi_iconst (pc' := 25) (v := 1) kc_67_24 rfl rfl ?_
  refine xi_cmt (pc' := 51) kc_67_25 rfl rfl ?_
  refine xi_iconst (pc' := 52) (v := 0) kc_67_51 rfl rfl ?_
  refine xi_iadd (pc' := 53) (v := 0) kc_67_52 rfl rfl ?_
  refine xi_istore_n (pc' := 54) (lv' := [(1, .int 0), (3, .int 5), (2, .int 14), (0, .ref 115)]) kc_67_53 rfl rfl (xm_lt ml_67 rfl) ?_
  refine xi_iinc (pc' := 57) (x := 5) (v := 6) (lv' := [(3, .int 6), (1, .int 0), (2, .int 14), (0, .ref 115)]) kc_67_54 rfl rfl rfl rfl (xm_lt ml_67 rfl) ?_
  refine xi_goto (pc' := 12) kc_67_57 rfl ?_
  refine xi_iload_n (pc' := 13) (x := 6) kc_67_12 rfl rfl ?_
  refine xi_iload_n (pc' := 14) (x := 14) kc_67_13 rfl rfl ?_
  refine xi_cmf (pc' := 17) kc_67_14 rfl rfl ?_
  refine xi_iload_n (pc' := 18) (x := 0) kc_67_17 rfl rfl ?_
  refine xi_aload_n (pc' := 19) (x := 115) kc_67_18 rfl rfl ?_
  refine xi_getfield (pc' := 22) (v := .ref 158) kc_67_19 rfl rfl rfl e115 rfl ?_
  refine xi_iload_n (pc' := 23) (x := 14) kc_67_22 rfl rfl ?_
  refine xi_iaload (pc' := 24) (v := 2) kc_67_23 rfl e158 (by decide) rfl (xi_in (n := 24) (by decide) (by decide)) rfl ?_
  refine xi_iconst (pc' := 25) (v := 1) kc_67_24 rfl rfl ?_
  refine xi_cmt (pc' := 51) kc_67_25 rfl rfl ?_
  refine xi_iconst (pc' := 52) (v := 0) kc_67_51 rfl rfl ?_
  refine xi_iadd (pc' := 53) (v := 0) kc_67_52 rfl rfl ?_
  refine xi_istore_n (pc' := 54) (lv' := [(1, .int 0), (3, .int 6), (2, .int 14), (0, .ref 115)]) kc_67_53 rfl rfl (xm_lt ml_67 rfl) ?_
  refine xi_iinc (pc' := 57) (x := 6) (v := 7) (lv' := [(3, .int 7), (1, .int 0), (2, .int 14), (0, .ref 115)]) kc_67_54 rfl rfl rfl rfl (xm_lt ml_67 rfl) ?_
  refine xi_goto (pc' := 12) kc_67_57 rfl ?_
  refine xi_iload_n (pc' := 13) (x := 7) kc_67_12 rfl rfl ?_
  refine xi_iload_n (pc' := 14) (x := 14) kc_67_13 rfl rfl ?_
  refine xi_cmf (pc' := 17) kc_67_14 rfl rfl ?_
  refine xi_iload_n (pc' := 18) (x := 0) kc_67_17 rfl rfl ?_
  refine xi_aload_n (pc' := 19) (x := 115) kc_67_18 rfl rfl ?_
  refine xi_getfield (pc' := 22) (v := .ref 158) kc_67_19 rfl rfl rfl e115 rfl ?_
  refine xi_iload_n (pc' := 23) (x := 14) kc_67_22 rfl rfl ?_
  refine xi_iaload (pc' := 24) (v := 2) kc_67_23 rfl e158 (by decide) rfl (xi_in (n := 24) (by decide) (by decide)) rfl ?_
  refine xi_iconst (pc' := 25) (v := 1) kc_67_24 rfl rfl ?_
  refine xi_cmt (pc' := 51) kc_67_25 rfl rfl ?_
  refine xi_iconst (pc' := 52) (v := 0) kc_67_51 rfl rfl ?_
  refine xi_iadd (pc' := 53) (v := 0) kc_67_52 rfl rfl ?_
  refine xi_istore_n (pc' := 54) (lv' := [(1, .int 0), (3, .int 7), (2, .int 14), (0, .ref 115)]) kc_67_53 rfl rfl (xm_lt ml_67 rfl) ?_
  refine xi_iinc (pc' := 57) (x := 7) (v := 8) (lv' := [(3, .int 8), (1, .int 0), (2, .int 14), (0, .ref 115)]) kc_67_54 rfl rfl rfl rfl (xm_lt ml_67 rfl) ?_
  refine xi_goto (pc' := 12) kc_67_57 rfl ?_
  refine xi_iload_n (pc' := 13) (x := 8) kc_67_12 rfl rfl ?_
  refine xi_iload_n (pc' := 14) (x := 14) kc_67_13 rfl rfl ?_
  refine xi_cmf (pc' := 17) kc_67_14 rfl rfl ?_
  refine xi_iload_n (pc' := 18) (x := 0) kc_67_17 rfl rfl ?_
  refine xi_aload_n (pc' := 19) (x := 115) kc_67_18 rfl rfl ?_
  refine xi_getfield (pc' := 22) (v := .ref 158) kc_67_19 rfl rfl rfl e115 rfl ?_
  refine xi_iload_n (pc' := 23) (x := 14) kc_67_22 rfl rfl ?_
  refine xi_iaload (pc' := 24) (v := 2) kc_67_23 rfl e158 (by decide) rfl (xi_in (n := 24) (by decide) (by decide)) rfl ?_
  refine xi_iconst (pc' := 25) (v := 1) kc_67_24 rfl rfl ?_
  refine xi_cmt (pc' := 51) kc_67_25 rfl rfl ?_
  refine xi_iconst (pc' := 52) (v := 0) kc_67_51 rfl rfl ?_
  refine xi_iadd (pc' := 53) (v := 0) kc_67_52 rfl rfl ?_
  refine xi_istore_n (pc' := 54) (lv' := [(1, .int 0), (3, .int 8), (2, .int 14), (0, .ref 115)]) kc_67_53 rfl rfl (xm_lt ml_67 rfl) ?_
  refine xi_iinc (pc' := 57) (x := 8) (v := 9) (lv' := [(3, .int 9), (1, .int 0), (2, .int 14), (0, .ref 115)]) kc_67_54 rfl rfl rfl rfl (xm_lt ml_67 rfl) ?_
  refine xi_goto (pc' := 12) kc_67_57 rfl ?_
  refine xi_iload_n (pc' := 13) (x := 9) kc_67_12 rfl rfl ?_
  refine xi_iload_n (pc' := 14) (x := 14) kc_67_13 rfl rfl ?_
  refine xi_cmf (pc' := 17) kc_67_14 rfl rfl ?_
  refine xi_iload_n (pc' := 18) (x := 0) kc_67_17 rfl rfl ?_
  refine xi_aload_n (pc' := 19) (x := 115) kc_67_18 rfl rfl ?_
  refine xi_getfield (pc' := 22) (v := .ref 158) kc_67_19 rfl rfl rfl e115 rfl ?_
  refine xi_iload_n (pc' := 23) (x := 14) kc_67_22 rfl rfl ?_
  refine xi_iaload (pc' := 24) (v := 2) kc_67_23 rfl e158 (by decide) rfl (xi_in (n := 24) (by decide) (by decide)) rfl ?_
  refine xi_iconst (pc' := 25) (v := 1) kc_67_24 rfl rfl ?_
  refine xi_cmt (pc' := 51) kc_67_25 rfl rfl ?_
  refine xi_iconst (pc' := 52) (v := 0) kc_67_51 rfl rfl ?_
  refine xi_iadd (pc' := 53) (v := 0) kc_67_52 rfl rfl ?_
  refine xi_istore_n (pc' := 54) (lv' := [(1, .int 0), (3, .int 9), (2, .int 14), (0, .ref 115)]) kc_67_53 rfl rfl (xm_lt ml_67 rfl) ?_
  refine xi_iinc (pc' := 57) (x := 9) (v := 10) (lv' := [(3, .int 10), (1, .int 0), (2, .int 14), (0, .ref 115)]) kc_67_54 rfl rfl rfl rfl (xm_lt ml_67 rfl) ?_
  refine xi_goto (pc' := 12) kc_67_57 rfl ?_
  refine xi_iload_n (pc' := 13) (x := 10) kc_67_12 rfl rfl ?_
  refine xi_iload_n (pc' := 14) (x := 14) kc_67_13 rfl rfl ?_
  refine xi_cmf (pc' := 17) kc_67_14 rfl rfl ?_
  refine xi_iload_n (pc' := 18) (x := 0) kc_67_17 rfl rfl ?_
  refine xi_aload_n (pc' := 19) (x := 115) kc_67_18 rfl rfl ?_
  refine xi_getfield (pc' := 22) (v := .ref 158) kc_67_19 rfl rfl rfl e115 rfl ?_
  refine xi_iload_n (pc' := 23) (x := 14) kc_67_22 rfl rfl ?_
  refine xi_iaload (pc' := 24) (v := 2) kc_67_23 rfl e158 (by decide) rfl (xi_in (n := 24) (by decide) (by decide)) rfl ?_
  refine xi_iconst (pc' := 25) (v := 1) kc_67_24 rfl rfl ?_
  refine xi_cmt (pc' := 51) kc_67_25 rfl rfl ?_
  refine xi_iconst (pc' := 52) (v := 0) kc_67_51 rfl rfl ?_
  refine xi_iadd (pc' := 53) (v := 0) kc_67_52 rfl rfl ?_
  refine xi_istore_n (pc' := 54) (lv' := [(1, .int 0), (3, .int 10), (2, .int 14), (0, .ref 115)]) kc_67_53 rfl rfl (xm_lt ml_67 rfl) ?_
  refine xi_iinc (pc' := 57) (x := 10) (v := 11) (lv' := [(3, .int 11), (1, .int 0), (2, .int 14), (0, .ref 115)]) kc_67_54 rfl rfl rfl rfl (xm_lt ml_67 rfl) ?_
  refine xi_goto (pc' := 12) kc_67_57 rfl ?_
  refine xi_iload_n (pc' := 13) (x := 11) kc_67_12 rfl rfl ?_
  refine xi_iload_n (pc' := 14) (x := 14) kc_67_13 rfl rfl ?_
  refine xi_cmf (pc' := 17) kc_67_14 rfl rfl ?_
  refine xi_iload_n (pc' := 18) (x := 0) kc_67_17 rfl rfl ?_
  refine xi_aload_n (pc' := 19) (x := 115) kc_67_18 rfl rfl ?_
  refine xi_getfield (pc' := 22) (v := .ref 158) kc_67_19 rfl rfl rfl e115 rfl ?_
  refine xi_iload_n (pc' := 23) (x := 14) kc_67_22 rfl rfl ?_
  refine xi_iaload (pc' := 24) (v := 2) kc_67_23 rfl e158 (by decide) rfl (xi_in (n := 24) (by decide) (by decide)) rfl ?_
  refine xi_iconst (pc' := 25) (v := 1) kc_67_24 rfl rfl ?_
  refine xi_cmt (pc' := 51) kc_67_25 rfl rfl ?_
  refine xi_iconst (pc' := 52) (v := 0) kc_67_51 rfl rfl ?_
  refine xi_iadd (pc' := 53) (v := 0) kc_67_52 rfl rfl ?_
  refine xi_istore_n (pc' := 54) (lv' := [(1, .int 0), (3, .int 11), (2, .int 14), (0, .ref 115)]) kc_67_53 rfl rfl (xm_lt ml_67 rfl) ?_
  refine xi_iinc (pc' := 57) (x := 11) (v := 12) (lv' := [(3, .int 12), (1, .int 0), (2, .int 14), (0, .ref 115)]) kc_67_54 rfl rfl rfl rfl (xm_lt ml_67 rfl) ?_
  refine xi_goto (pc' := 12) kc_67_57 rfl ?_
  refine xi_iload_n (pc' := 13) (x := 12) kc_67_12 rfl rfl ?_
  refine xi_iload_n (pc' := 14) (x := 14) kc_67_13 rfl rfl ?_
  refine xi_cmf (pc' := 17) kc_67_14 rfl rfl ?_
  refine xi_iload_n (pc' := 18) (x := 0) kc_67_17 rfl rfl ?_
  refine xi_aload_n (pc' := 19) (x := 115) kc_67_18 rfl rfl ?_
  refine xi_getfield (pc' := 22) (v := .ref 158) kc_67_19 rfl rfl rfl e115 rfl ?_
  refine xi_iload_n (pc' := 23) (x := 14) kc_67_22 rfl rfl ?_
  refine xi_iaload (pc' := 24) (v := 2) kc_67_23 rfl e158 (by decide) rfl (xi_in (n := 24) (by decide) (by decide)) rfl ?_
  refine xi_iconst (pc' := 25) (v := 1) kc_67_24 rfl rfl ?_
  refine xi_cmt (pc' := 51) kc_67_25 rfl rfl ?_
  refine xi_iconst (pc' := 52) (v := 0) kc_67_51 rfl rfl ?_
  refine xi_iadd (pc' := 53) (v := 0) kc_67_52 rfl rfl ?_
  refine xi_istore_n (pc' := 54) (lv' := [(1, .int 0), (3, .int 12), (2, .int 14), (0, .ref 115)]) kc_67_53 rfl rfl (xm_lt ml_67 rfl) ?_
  refine xi_iinc (pc' := 57) (x := 12) (v := 13) (lv' := [(3, .int 13), (1, .int 0), (2, .int 14), (0, .ref 115)]) kc_67_54 rfl rfl rfl rfl (xm_lt ml_67 rfl) ?_
  refine xi_goto (pc' := 12) kc_67_57 rfl ?_
  refine xi_iload_n (pc' := 13) (x := 13) kc_67_12 rfl rfl ?_
  refine xi_iload_n (pc' := 14) (x := 14) kc_67_13 rfl rfl ?_
  refine xi_cmf (pc' := 17) kc_67_14 rfl rfl ?_
  refine xi_iload_n (pc' := 18) (x := 0) kc_67_17 rfl rfl ?_
  refine xi_aload_n (pc' := 19) (x := 115) kc_67_18 rfl rfl ?_
  refine xi_getfield (pc' := 22) (v := .ref 158) kc_67_19 rfl rfl rfl e115 rfl ?_
  refine xi_iload_n (pc' := 23) (x := 14) kc_67_22 rfl rfl ?_
  refine xi_iaload (pc' := 24) (v := 2) kc_67_23 rfl e158 (by decide) rfl (xi_in (n := 24) (by decide) (by decide)) rfl ?_
  refine xi_iconst (pc' := 25) (v := 1) kc_67_24 rfl rfl ?_
  refine xi_cmt (pc' := 51) kc_67_25 rfl rfl ?_
  refine xi_iconst (pc' := 52) (v := 0) kc_67_51 rfl rfl ?_
  refine xi_iadd (pc' := 53) (v := 0) kc_67_52 rfl rfl ?_
  refine xi_istore_n (pc' := 54) (lv' := [(1, .int 0), (3, .int 13), (2, .int 14), (0, .ref 115)]) kc_67_53 rfl rfl (xm_lt ml_67 rfl) ?_
  refine xi_iinc (pc' := 57) (x := 13) (v := 14) (lv' := [(3, .int 14), (1, .int 0), (2, .int 14), (0, .ref 115)]) kc_67_54 rfl rfl rfl rfl (xm_lt ml_67 rfl) ?_
  refine xi_goto (pc' := 12) kc_67_57 rfl ?_
  refine xi_iload_n (pc' := 13) (x := 14) kc_67_12 rfl rfl ?_
  refine xi_iload_n (pc' := 14) (x := 14) kc_67_13 rfl rfl ?_
  refine xi_cmt (pc' := 60) kc_67_14 rfl rfl ?_
  refine xi_iinc (pc' := 63) (x := 14) (v := 15) (lv' := [(2, .int 15), (3, .int 14), (1, .int 0), (0, .ref 115)]) kc_67_60 rfl rfl rfl rfl (xm_lt ml_67 rfl) ?_
  refine xi_goto (pc' := 4) kc_67_63 rfl ?_
  refine xi_iload_n (pc' := 5) (x := 15) kc_67_4 rfl rfl ?_
  refine xi_bipush (pc' := 7) (v := 24) kc_67_5 rfl rfl ?_
  refine xi_cmf (pc' := 10) kc_67_7 rfl rfl ?_
  refine xi_iconst (pc' := 11) (v := 0) kc_67_10 rfl rfl ?_
  refine xi_istore_n (pc' := 12) (lv' := [(3, .int 0), (2, .int 15), (1, .int 0), (0, .ref 115)]) kc_67_11 rfl rfl (xm_lt ml_67 rfl) ?_
  refine xi_iload_n (pc' := 13) (x := 0) kc_67_12 rfl rfl ?_
  refine xi_iload_n (pc' := 14) (x := 15) kc_67_13 rfl rfl ?_
  refine xi_cmf (pc' := 17) kc_67_14 rfl rfl ?_
  refine xi_iload_n (pc' := 18) (x := 0) kc_67_17 rfl rfl ?_
  refine xi_aload_n (pc' := 19) (x := 115) kc_67_18 rfl rfl ?_
  refine xi_getfield (pc' := 22) (v := .ref 158) kc_67_19 rfl rfl rfl e115 rfl ?_
  refine xi_iload_n (pc' := 23) (x := 15) kc_67_22 rfl rfl ?_
  refine xi_iaload (pc' := 24) (v := 2) kc_67_23 rfl e158 (by decide) rfl (xi_in (n := 24) (by decide) (by decide)) rfl ?_
  refine xi_iconst (pc' := 25) (v := 1) kc_67_24 rfl rfl ?_
  refine xi_cmt (pc' := 51) kc_67_25 rfl rfl ?_
  refine xi_iconst (pc' := 52) (v := 0) kc_67_51 rfl rfl ?_
  refine xi_iadd (pc' := 53) (v := 0) kc_67_52 rfl rfl ?_
  refine xi_istore_n (pc' := 54) (lv' := [(1, .int 0), (3, .int 0), (2, .int 15), (0, .ref 115)]) kc_67_53 rfl rfl (xm_lt ml_67 rfl) ?_
  refine xi_iinc (pc' := 57) (x := 0) (v := 1) (lv' := [(3, .int 1), (1, .int 0), (2, .int 15), (0, .ref 115)]) kc_67_54 rfl rfl rfl rfl (xm_lt ml_67 rfl) ?_
  refine xi_goto (pc' := 12) kc_67_57 rfl ?_
  refine xi_iload_n (pc' := 13) (x := 1) kc_67_12 rfl rfl ?_
  refine xi_iload_n (pc' := 14) (x := 15) kc_67_13 rfl rfl ?_
  refine xi_cmf (pc' := 17) kc_67_14 rfl rfl ?_
  refine xi_iload_n (pc' := 18) (x := 0) kc_67_17 rfl rfl ?_
  refine xi_aload_n (pc' := 19) (x := 115) kc_67_18 rfl rfl ?_
  refine xi_getfield (pc' := 22) (v := .ref 158) kc_67_19 rfl rfl rfl e115 rfl ?_
  refine xi_iload_n (pc' := 23) (x := 15) kc_67_22 rfl rfl ?_
  refine xi_iaload (pc' := 24) (v := 2) kc_67_23 rfl e158 (by decide) rfl (xi_in (n := 24) (by decide) (by decide)) rfl ?_
  refine xi_iconst (pc' := 25) (v := 1) kc_67_24 rfl rfl ?_
  refine xi_cmt (pc' := 51) kc_67_25 rfl rfl ?_
  refine xi_iconst (pc' := 52) (v := 0) kc_67_51 rfl rfl ?_
  refine xi_iadd (pc' := 53) (v := 0) kc_67_52 rfl rfl ?_
  refine xi_istore_n (pc' := 54) (lv' := [(1, .int 0), (3, .int 1), (2, .int 15), (0, .ref 115)]) kc_67_53 rfl rfl (xm_lt ml_67 rfl) ?_
  refine xi_iinc (pc' := 57) (x := 1) (v := 2) (lv' := [(3, .int 2), (1, .int 0), (2, .int 15), (0, .ref 115)]) kc_67_54 rfl rfl rfl rfl (xm_lt ml_67 rfl) ?_
  refine xi_goto (pc' := 12) kc_67_57 rfl ?_
  refine xi_iload_n (pc' := 13) (x := 2) kc_67_12 rfl rfl ?_
  refine xi_iload_n (pc' := 14) (x := 15) kc_67_13 rfl rfl ?_
  refine xi_cmf (pc' := 17) kc_67_14 rfl rfl ?_
  refine xi_iload_n (pc' := 18) (x := 0) kc_67_17 rfl rfl ?_
  refine xi_aload_n (pc' := 19) (x := 115) kc_67_18 rfl rfl ?_
  refine xi_getfield (pc' := 22) (v := .ref 158) kc_67_19 rfl rfl rfl e115 rfl ?_
  refine xi_iload_n (pc' := 23) (x := 15) kc_67_22 rfl rfl ?_
  refine xi_iaload (pc' := 24) (v := 2) kc_67_23 rfl e158 (by decide) rfl (xi_in (n := 24) (by decide) (by decide)) rfl ?_
  refine xi_iconst (pc' := 25) (v := 1) kc_67_24 rfl rfl ?_
  refine xi_cmt (pc' := 51) kc_67_25 rfl rfl ?_
  refine xi_iconst (pc' := 52) (v := 0) kc_67_51 rfl rfl ?_
  refine xi_iadd (pc' := 53) (v := 0) kc_67_52 rfl rfl ?_
  refine xi_istore_n (pc' := 54) (lv' := [(1, .int 0), (3, .int 2), (2, .int 15), (0, .ref 115)]) kc_67_53 rfl rfl (xm_lt ml_67 rfl) ?_
  refine xi_iinc (pc' := 57) (x := 2) (v := 3) (lv' := [(3, .int 3), (1, .int 0), (2, .int 15), (0, .ref 115)]) kc_67_54 rfl rfl rfl rfl (xm_lt ml_67 rfl) ?_
  refine xi_goto (pc' := 12) kc_67_57 rfl ?_
  refine xi_iload_n (pc' := 13) (x := 3) kc_67_12 rfl rfl ?_
  refine xi_iload_n (pc' := 14) (x := 15) kc_67_13 rfl rfl ?_
  refine xi_cmf (pc' := 17) kc_67_14 rfl rfl ?_
  refine xi_iload_n (pc' := 18) (x := 0) kc_67_17 rfl rfl ?_
  refine xi_aload_n (pc' := 19) (x := 115) kc_67_18 rfl rfl ?_
  refine xi_getfield (pc' := 22) (v := .ref 158) kc_67_19 rfl rfl rfl e115 rfl ?_
  refine xi_iload_n (pc' := 23) (x := 15) kc_67_22 rfl rfl ?_
  refine xi_iaload (pc' := 24) (v := 2) kc_67_23 rfl e158 (by decide) rfl (xi_in (n := 24) (by decide) (by decide)) rfl ?_
  refine xi_iconst (pc' := 25) (v := 1) kc_67_24 rfl rfl ?_
  refine xi_cmt (pc' := 51) kc_67_25 rfl rfl ?_
  refine xi_iconst (pc' := 52) (v := 0) kc_67_51 rfl rfl ?_
  refine xi_iadd (pc' := 53) (v := 0) kc_67_52 rfl rfl ?_
  refine xi_istore_n (pc' := 54) (lv' := [(1, .int 0), (3, .int 3), (2, .int 15), (0, .ref 115)]) kc_67_53 rfl rfl (xm_lt ml_67 rfl) ?_
  refine xi_iinc (pc' := 57) (x := 3) (v := 4) (lv' := [(3, .int 4), (1, .int 0), (2, .int 15), (0, .ref 115)]) kc_67_54 rfl rfl rfl rfl (xm_lt ml_67 rfl) ?_
  refine xi_goto (pc' := 12) kc_67_57 rfl ?_
  refine xi_iload_n (pc' := 13) (x := 4) kc_67_12 rfl rfl ?_
  refine xi_iload_n (pc' := 14) (x := 15) kc_67_13 rfl rfl ?_
  refine xi_cmf (pc' := 17) kc_67_14 rfl rfl ?_
  refine xi_iload_n (pc' := 18) (x := 0) kc_67_17 rfl rfl ?_
  refine xi_aload_n (pc' := 19) (x := 115) kc_67_18 rfl rfl ?_
  refine xi_getfield (pc' := 22) (v := .ref 158) kc_67_19 rfl rfl rfl e115 rfl ?_
  refine xi_iload_n (pc' := 23) (x := 15) kc_67_22 rfl rfl ?_
  refine xi_iaload (pc' := 24) (v := 2) kc_67_23 rfl e158 (by decide) rfl (xi_in (n := 24) (by decide) (by decide)) rfl ?_
  refine xi_iconst (pc' := 25) (v := 1) kc_67_24 rfl rfl ?_
  refine xi_cmt (pc' := 51) kc_67_25 rfl rfl ?_
  refine xi_iconst (pc' := 52) (v := 0) kc_67_51 rfl rfl ?_
  refine xi_iadd (pc' := 53) (v := 0) kc_67_52 rfl rfl ?_
  refine xi_istore_n (pc' := 54) (lv' := [(1, .int 0), (3, .int 4), (2, .int 15), (0, .ref 115)]) kc_67_53 rfl rfl (xm_lt ml_67 rfl) ?_
  refine xi_iinc (pc' := 57) (x := 4) (v := 5) (lv' := [(3, .int 5), (1, .int 0), (2, .int 15), (0, .ref 115)]) kc_67_54 rfl rfl rfl rfl (xm_lt ml_67 rfl) ?_
  refine xi_goto (pc' := 12) kc_67_57 rfl ?_
  refine xi_iload_n (pc' := 13) (x := 5) kc_67_12 rfl rfl ?_
  refine xi_iload_n (pc' := 14) (x := 15) kc_67_13 rfl rfl ?_
  refine xi_cmf (pc' := 17) kc_67_14 rfl rfl ?_
  refine xi_iload_n (pc' := 18) (x := 0) kc_67_17 rfl rfl ?_
  refine xi_aload_n (pc' := 19) (x := 115) kc_67_18 rfl rfl ?_
  refine xi_getfield (pc' := 22) (v := .ref 158) kc_67_19 rfl rfl rfl e115 rfl ?_
  refine xi_iload_n (pc' := 23) (x := 15) kc_67_22 rfl rfl ?_
  refine xi_iaload (pc' := 24) (v := 2) kc_67_23 rfl e158 (by decide) rfl (xi_in (n := 24) (by decide) (by decide)) rfl ?_
  refine xi_iconst (pc' := 25) (v := 1) kc_67_24 rfl rfl ?_
  refine xi_cmt (pc' := 51) kc_67_25 rfl rfl ?_
  refine xi_iconst (pc' := 52) (v := 0) kc_67_51 rfl rfl ?_
  refine xi_iadd (pc' := 53) (v := 0) kc_67_52 rfl rfl ?_
  refine xi_istore_n (pc' := 54) (lv' := [(1, .int 0), (3, .int 5), (2, .int 15), (0, .ref 115)]) kc_67_53 rfl rfl (xm_lt ml_67 rfl) ?_
  refine xi_iinc (pc' := 57) (x := 5) (v := 6) (lv' := [(3, .int 6), (1, .int 0), (2, .int 15), (0, .ref 115)]) kc_67_54 rfl rfl rfl rfl (xm_lt ml_67 rfl) ?_
  refine xi_goto (pc' := 12) kc_67_57 rfl ?_
  refine xi_iload_n (pc' := 13) (x := 6) kc_67_12 rfl rfl ?_
  refine xi_iload_n (pc' := 14) (x := 15) kc_67_13 rfl rfl ?_
  refine xi_cmf (pc' := 17) kc_67_14 rfl rfl ?_
  refine xi_iload_n (pc' := 18) (x := 0) kc_67_17 rfl rfl ?_
  refine xi_aload_n (pc' := 19) (x := 115) kc_67_18 rfl rfl ?_
  refine xi_getfield (pc' := 22) (v := .ref 158) kc_67_19 rfl rfl rfl e115 rfl ?_
  refine xi_iload_n (pc' := 23) (x := 15) kc_67_22 rfl rfl ?_
  refine xi_iaload (pc' := 24) (v := 2) kc_67_23 rfl e158 (by decide) rfl (xi_in (n := 24) (by decide) (by decide)) rfl ?_
  refine xi_iconst (pc' := 25) (v := 1) kc_67_24 rfl rfl ?_
  refine xi_cmt (pc' := 51) kc_67_25 rfl rfl ?_
  refine xi_iconst (pc' := 52) (v := 0) kc_67_51 rfl rfl ?_
  refine xi_iadd (pc' := 53) (v := 0) kc_67_52 rfl rfl ?_
  refine xi_istore_n (pc' := 54) (lv' := [(1, .int 0), (3, .int 6), (2, .int 15), (0, .ref 115)]) kc_67_53 rfl rfl (xm_lt ml_67 rfl) ?_
  refine xi_iinc (pc' := 57) (x := 6) (v := 7) (lv' := [(3, .int 7), (1, .int 0), (2, .int 15), (0, .ref 115)]) kc_67_54 rfl rfl rfl rfl (xm_lt ml_67 rfl) ?_
  refine xi_goto (pc' := 12) kc_67_57 rfl ?_
  refine xi_iload_n (pc' := 13) (x := 7) kc_67_12 rfl rfl ?_
  refine xi_iload_n (pc' := 14) (x := 15) kc_67_13 rfl rfl ?_
  refine xi_cmf (pc' := 17) kc_67_14 rfl rfl ?_
  refine xi_iload_n (pc' := 18) (x := 0) kc_67_17 rfl rfl ?_
  refine xi_aload_n (pc' := 19) (x := 115) kc_67_18 rfl rfl ?_
  refine xi_getfield (pc' := 22) (v := .ref 158) kc_67_19 rfl rfl rfl e115 rfl ?_
  refine xi_iload_n (pc' := 23) (x := 15) kc_67_22 rfl rfl ?_
  refine xi_iaload (pc' := 24) (v := 2) kc_67_23 rfl e158 (by decide) rfl (xi_in (n := 24) (by decide) (by decide)) rfl ?_
  refine xi_iconst (pc' := 25) (v := 1) kc_67_24 rfl rfl ?_
  refine xi_cmt (pc' := 51) kc_67_25 rfl rfl ?_
  refine xi_iconst (pc' := 52) (v := 0) kc_67_51 rfl rfl ?_
  refine xi_iadd (pc' := 53) (v := 0) kc_67_52 rfl rfl ?_
  refine xi_istore_n (pc' := 54) (lv' := [(1, .int 0), (3, .int 7), (2, .int 15), (0, .ref 115)]) kc_67_53 rfl rfl (xm_lt ml_67 rfl) ?_
  refine xi_iinc (pc' := 57) (x := 7) (v := 8) (lv' := [(3, .int 8), (1, .int 0), (2, .int 15), (0, .ref 115)]) kc_67_54 rfl rfl rfl rfl (xm_lt ml_67 rfl) ?_
  refine xi_goto (pc' := 12) kc_67_57 rfl ?_
  refine xi_iload_n (pc' := 13) (x := 8) kc_67_12 rfl rfl ?_
  refine xi_iload_n (pc' := 14) (x := 15) kc_67_13 rfl rfl ?_
  refine xi_cmf (pc' := 17) kc_67_14 rfl rfl ?_
  refine xi_iload_n (pc' := 18) (x := 0) kc_67_17 rfl rfl ?_
  refine xi_aload_n (pc' := 19) (x := 115) kc_67_18 rfl rfl ?_
  refine xi_getfield (pc' := 22) (v := .ref 158) kc_67_19 rfl rfl rfl e115 rfl ?_
  refine xi_iload_n (pc' := 23) (x := 15) kc_67_22 rfl rfl ?_
  refine xi_iaload (pc' := 24) (v := 2) kc_67_23 rfl e158 (by decide) rfl (xi_in (n := 24) (by decide) (by decide)) rfl ?_
  refine xi_iconst (pc' := 25) (v := 1) kc_67_24 rfl rfl ?_
  refine xi_cmt (pc' := 51) kc_67_25 rfl rfl ?_
  refine xi_iconst (pc' := 52) (v := 0) kc_67_51 rfl rfl ?_
  refine xi_iadd (pc' := 53) (v := 0) kc_67_52 rfl rfl ?_
  refine xi_istore_n (pc' := 54) (lv' := [(1, .int 0), (3, .int 8), (2, .int 15), (0, .ref 115)]) kc_67_53 rfl rfl (xm_lt ml_67 rfl) ?_
  refine xi_iinc (pc' := 57) (x := 8) (v := 9) (lv' := [(3, .int 9), (1, .int 0), (2, .int 15), (0, .ref 115)]) kc_67_54 rfl rfl rfl rfl (xm_lt ml_67 rfl) ?_
  refine xi_goto (pc' := 12) kc_67_57 rfl ?_
  refine xi_iload_n (pc' := 13) (x := 9) kc_67_12 rfl rfl ?_
  refine xi_iload_n (pc' := 14) (x := 15) kc_67_13 rfl rfl ?_
  refine xi_cmf (pc' := 17) kc_67_14 rfl rfl ?_
  refine xi_iload_n (pc' := 18) (x := 0) kc_67_17 rfl rfl ?_
  refine xi_aload_n (pc' := 19) (x := 115) kc_67_18 rfl rfl ?_
  refine xi_getfield (pc' := 22) (v := .ref 158) kc_67_19 rfl rfl rfl e115 rfl ?_
  refine xi_iload_n (pc' := 23) (x := 15) kc_67_22 rfl rfl ?_
  refine xi_iaload (pc' := 24) (v := 2) kc_67_23 rfl e158 (by decide) rfl (xi_in (n := 24) (by decide) (by decide)) rfl ?_
  refine xi_iconst (pc' := 25) (v := 1) kc_67_24 rfl rfl ?_
  refine xi_cmt (pc' := 51) kc_67_25 rfl rfl ?_
  refine xi_iconst (pc' := 52) (v := 0) kc_67_51 rfl rfl ?_
  refine xi_iadd (pc' := 53) (v := 0) kc_67_52 rfl rfl ?_
  refine xi_istore_n (pc' := 54) (lv' := [(1, .int 0), (3, .int 9), (2, .int 15), (0, .ref 115)]) kc_67_53 rfl rfl (xm_lt ml_67 rfl) ?_
  refine xi_iinc (pc' := 57) (x := 9) (v := 10) (lv' := [(3, .int 10), (1, .int 0), (2, .int 15), (0, .ref 115)]) kc_67_54 rfl rfl rfl rfl (xm_lt ml_67 rfl) ?_
  refine xi_goto (pc' := 12) kc_67_57 rfl ?_
  refine xi_iload_n (pc' := 13) (x := 10) kc_67_12 rfl rfl ?_
  refine xi_iload_n (pc' := 14) (x := 15) kc_67_13 rfl rfl ?_
  refine xi_cmf (pc' := 17) kc_67_14 rfl rfl ?_
  refine xi_iload_n (pc' := 18) (x := 0) kc_67_17 rfl rfl ?_
  refine xi_aload_n (pc' := 19) (x := 115) kc_67_18 rfl rfl ?_
  refine xi_getfield (pc' := 22) (v := .ref 158) kc_67_19 rfl rfl rfl e115 rfl ?_
  refine xi_iload_n (pc' := 23) (x := 15) kc_67_22 rfl rfl ?_
  refine xi_iaload (pc' := 24) (v := 2) kc_67_23 rfl e158 (by decide) rfl (xi_in (n := 24) (by decide) (by decide)) rfl ?_
  refine xi_iconst (pc' := 25) (v := 1) kc_67_24 rfl rfl ?_
  refine xi_cmt (pc' := 51) kc_67_25 rfl rfl ?_
  refine xi_iconst (pc' := 52) (v := 0) kc_67_51 rfl rfl ?_
  refine xi_iadd (pc' := 53) (v := 0) kc_67_52 rfl rfl ?_
  refine xi_istore_n (pc' := 54) (lv' := [(1, .int 0), (3, .int 10), (2, .int 15), (0, .ref 115)]) kc_67_53 rfl rfl (xm_lt ml_67 rfl) ?_
  refine xi_iinc (pc' := 57) (x := 10) (v := 11) (lv' := [(3, .int 11), (1, .int 0), (2, .int 15), (0, .ref 115)]) kc_67_54 rfl rfl rfl rfl (xm_lt ml_67 rfl) ?_
  refine xi_goto (pc' := 12) kc_67_57 rfl ?_
  refine xi_iload_n (pc' := 13) (x := 11) kc_67_12 rfl rfl ?_
  refine xi_iload_n (pc' := 14) (x := 15) kc_67_13 rfl rfl ?_
  refine xi_cmf (pc' := 17) kc_67_14 rfl rfl ?_
  refine xi_iload_n (pc' := 18) (x := 0) kc_67_17 rfl rfl ?_
  refine xi_aload_n (pc' := 19) (x := 115) kc_67_18 rfl rfl ?_
  refine xi_getfield (pc' := 22) (v := .ref 158) kc_67_19 rfl rfl rfl e115 rfl ?_
  refine xi_iload_n (pc' := 23) (x := 15) kc_67_22 rfl rfl ?_
  refine xi_iaload (pc' := 24) (v := 2) kc_67_23 rfl e158 (by decide) rfl (xi_in (n := 24) (by decide) (by decide)) rfl ?_
  refine xi_iconst (pc' := 25) (v := 1) kc_67_24 rfl rfl ?_
  refine xi_cmt (pc' := 51) kc_67_25 rfl rfl ?_
  refine xi_iconst (pc' := 52) (v := 0) kc_67_51 rfl rfl ?_
  refine xi_iadd (pc' := 53) (v := 0) kc_67_52 rfl rfl ?_
  refine xi_istore_n (pc' := 54) (lv' := [(1, .int 0), (3, .int 11), (2, .int 15), (0, .ref 115)]) kc_67_53 rfl rfl (xm_lt ml_67 rfl) ?_
  refine xi_iinc (pc' := 57) (x := 11) (v := 12) (lv' := [(3, .int 12), (1, .int 0), (2, .int 15), (0, .ref 115)]) kc_67_54 rfl rfl rfl rfl (xm_lt ml_67 rfl) ?_
  refine xi_goto (pc' := 12) kc_67_57 rfl ?_
  refine xi_iload_n (pc' := 13) (x := 12) kc_67_12 rfl rfl ?_
  refine xi_iload_n (pc' := 14) (x := 15) kc_67_13 rfl rfl ?_
  refine xi_cmf (pc' := 17) kc_67_14 rfl rfl ?_
  refine xi_iload_n (pc' := 18) (x := 0) kc_67_17 rfl rfl ?_
  refine xi_aload_n (pc' := 19) (x := 115) kc_67_18 rfl rfl ?_
  refine xi_getfield (pc' := 22) (v := .ref 158) kc_67_19 rfl rfl rfl e115 rfl ?_
  refine xi_iload_n (pc' := 23) (x := 15) kc_67_22 rfl rfl ?_
  refine xi_iaload (pc' := 24) (v := 2) kc_67_23 rfl e158 (by decide) rfl (xi_in (n := 24) (by decide) (by decide)) rfl ?_
  refine xi_iconst (pc' := 25) (v := 1) kc_67_24 rfl rfl ?_
  refine xi_cmt (pc' := 51) kc_67_25 rfl rfl ?_
  refine xi_iconst (pc' := 52) (v := 0) kc_67_51 rfl rfl ?_
  refine xi_iadd (pc' := 53) (v := 0) kc_67_52 rfl rfl ?_
  refine xi_istore_n (pc' := 54) (lv' := [(1, .int 0), (3, .int 12), (2, .int 15), (0, .ref 115)]) kc_67_53 rfl rfl (xm_lt ml_67 rfl) ?_
  refine xi_iinc (pc' := 57) (x := 12) (v := 13) (lv' := [(3, .int 13), (1, .int 0), (2, .int 15), (0, .ref 115)]) kc_67_54 rfl rfl rfl rfl (xm_lt ml_67 rfl) ?_
  refine xi_goto (pc' := 12) kc_67_57 rfl ?_
  refine xi_iload_n (pc' := 13) (x := 13) kc_67_12 rfl rfl ?_
  refine xi_iload_n (pc' := 14) (x := 15) kc_67_13 rfl rfl ?_
  refine xi_cmf (pc' := 17) kc_67_14 rfl rfl ?_
  refine xi_iload_n (pc' := 18) (x := 0) kc_67_17 rfl rfl ?_
  refine xi_aload_n (pc' := 19) (x := 115) kc_67_18 rfl rfl ?_
  refine xi_getfield (pc' := 22) (v := .ref 158) kc_67_19 rfl rfl rfl e115 rfl ?_
  refine xi_iload_n (pc' := 23) (x := 15) kc_67_22 rfl rfl ?_
  refine xi_iaload (pc' := 24) (v := 2) kc_67_23 rfl e158 (by decide) rfl (xi_in (n := 24) (by decide) (by decide)) rfl ?_
  refine xi_iconst (pc' := 25) (v := 1) kc_67_24 rfl rfl ?_
  refine xi_cmt (pc' := 51) kc_67_25 rfl rfl ?_
  refine xi_iconst (pc' := 52) (v := 0) kc_67_51 rfl rfl ?_
  refine xi_iadd (pc' := 53) (v := 0) kc_67_52 rfl rfl ?_
  refine xi_istore_n (pc' := 54) (lv' := [(1, .int 0), (3, .int 13), (2, .int 15), (0, .ref 115)]) kc_67_53 rfl rfl (xm_lt ml_67 rfl) ?_
  refine xi_iinc (pc' := 57) (x := 13) (v := 14) (lv' := [(3, .int 14), (1, .int 0), (2, .int 15), (0, .ref 115)]) kc_67_54 rfl rfl rfl rfl (xm_lt ml_67 rfl) ?_
  refine xi_goto (pc' := 12) kc_67_57 rfl ?_
  refine xi_iload_n (pc' := 13) (x := 14) kc_67_12 rfl rfl ?_
  refine xi_iload_n (pc' := 14) (x := 15) kc_67_13 rfl rfl ?_
  refine xi_cmf (pc' := 17) kc_67_14 rfl rfl ?_
  refine xi_iload_n (pc' := 18) (x := 0) kc_67_17 rfl rfl ?_
  refine xi_aload_n (pc' := 19) (x := 115) kc_67_18 rfl rfl ?_
  refine xi_getfield (pc' := 22) (v := .ref 158) kc_67_19 rfl rfl rfl e115 rfl ?_
  refine xi_iload_n (pc' := 23) (x := 15) kc_67_22 rfl rfl ?_
  refine xi_iaload (pc' := 24) (v := 2) kc_67_23 rfl e158 (by decide) rfl (xi_in (n := 24) (by decide) (by decide)) rfl ?_
  refine xi_iconst (pc' := 25) (v := 1) kc_67_24 rfl rfl ?_
  refine xi_cmt (pc' := 51) kc_67_25 rfl rfl ?_
  refine xi_iconst (pc' := 52) (v := 0) kc_67_51 rfl rfl ?_
  refine xi_iadd (pc' := 53) (v := 0) kc_67_52 rfl rfl ?_
  refine xi_istore_n (pc' := 54) (lv' := [(1, .int 0), (3, .int 14), (2, .int 15), (0, .ref 115)]) kc_67_53 rfl rfl (xm_lt ml_67 rfl) ?_
  refine xi_iinc (pc' := 57) (x := 14) (v := 15) (lv' := [(3, .int 15), (1, .int 0), (2, .int 15), (0, .ref 115)]) kc_67_54 rfl rfl rfl rfl (xm_lt ml_67 rfl) ?_
  refine xi_goto (pc' := 12) kc_67_57 rfl ?_
  refine xi_iload_n (pc' := 13) (x := 15) kc_67_12 rfl rfl ?_
  refine xi_iload_n (pc' := 14) (x := 15) kc_67_13 rfl rfl ?_
  refine xi_cmt (pc' := 60) kc_67_14 rfl rfl ?_
  refine xi_iinc (pc' := 63) (x := 15) (v := 16) (lv' := [(2, .int 16), (3, .int 15), (1, .int 0), (0, .ref 115)]) kc_67_60 rfl rfl rfl rfl (xm_lt ml_67 rfl) ?_
  refine xi_goto (pc' := 4) kc_67_63 rfl ?_
  refine xi_iload_n (pc' := 5) (x := 16) kc_67_4 rfl rfl ?_
  refine xi_bipush (pc' := 7) (v := 24) kc_67_5 rfl rfl ?_
  refine xi_cmf (pc' := 10) kc_67_7 rfl rfl ?_
  refine xi_iconst (pc' := 11) (v := 0) kc_67_10 rfl rfl ?_
  refine xi_istore_n (pc' := 12) (lv' := [(3, .int 0), (2, .int 16), (1, .int 0), (0, .ref 115)]) kc_67_11 rfl rfl (xm_lt ml_67 rfl) ?_
  refine xi_iload_n (pc' := 13) (x := 0) kc_67_12 rfl rfl ?_
  refine xi_iload_n (pc' := 14) (x := 16) kc_67_13 rfl rfl ?_
  refine xi_cmf (pc' := 17) kc_67_14 rfl rfl ?_
  refine xi_iload_n (pc' := 18) (x := 0) kc_67_17 rfl rfl ?_
  refine xi_aload_n (pc' := 19) (x := 115) kc_67_18 rfl rfl ?_
  refine xi_getfield (pc' := 22) (v := .ref 158) kc_67_19 rfl rfl rfl e115 rfl ?_
  refine xi_iload_n (pc' := 23) (x := 16) kc_67_22 rfl rfl ?_
  refine xi_iaload (pc' := 24) (v := 2) kc_67_23 rfl e158 (by decide) rfl (xi_in (n := 24) (by decide) (by decide)) rfl ?_
  refine xi_iconst (pc' := 25) (v := 1) kc_67_24 rfl rfl ?_
  refine xi_cmt (pc' := 51) kc_67_25 rfl rfl ?_
  refine xi_iconst (pc' := 52) (v := 0) kc_67_51 rfl rfl ?_
  refine xi_iadd (pc' := 53) (v := 0) kc_67_52 rfl rfl ?_
  refine xi_istore_n (pc' := 54) (lv' := [(1, .int 0), (3, .int 0), (2, .int 16), (0, .ref 115)]) kc_67_53 rfl rfl (xm_lt ml_67 rfl) ?_
  refine xi_iinc (pc' := 57) (x := 0) (v := 1) (lv' := [(3, .int 1), (1, .int 0), (2, .int 16), (0, .ref 115)]) kc_67_54 rfl rfl rfl rfl (xm_lt ml_67 rfl) ?_
  refine xi_goto (pc' := 12) kc_67_57 rfl ?_
  refine xi_iload_n (pc' := 13) (x := 1) kc_67_12 rfl rfl ?_
  refine xi_iload_n (pc' := 14) (x := 16) kc_67_13 rfl rfl ?_
  refine xi_cmf (pc' := 17) kc_67_14 rfl rfl ?_
  refine xi_iload_n (pc' := 18) (x := 0) kc_67_17 rfl rfl ?_
  refine xi_aload_n (pc' := 19) (x := 115) kc_67_18 rfl rfl ?_
  refine xi_getfield (pc' := 22) (v := .ref 158) kc_67_19 rfl rfl rfl e115 rfl ?_
  refine xi_iload_n (pc' := 23) (x := 16) kc_67_22 rfl rfl ?_
  refine xi_iaload (pc' := 24) (v := 2) kc_67_23 rfl e158 (by decide) rfl (xi_in (n := 24) (by decide) (by decide)) rfl ?_
  refine xi_iconst (pc' := 25) (v := 1) kc_67_24 rfl rfl ?_
  refine xi_cmt (pc' := 51) kc_67_25 rfl rfl ?_
  refine xi_iconst (pc' := 52) (v := 0) kc_67_51 rfl rfl ?_
  refine xi_iadd (pc' := 53) (v := 0) kc_67_52 rfl rfl ?_
  refine xi_istore_n (pc' := 54) (lv' := [(1, .int 0), (3, .int 1), (2, .int 16), (0, .ref 115)]) kc_67_53 rfl rfl (xm_lt ml_67 rfl) ?_
  refine xi_iinc (pc' := 57) (x := 1) (v := 2) (lv' := [(3, .int 2), (1, .int 0), (2, .int 16), (0, .ref 115)]) kc_67_54 rfl rfl rfl rfl (xm_lt ml_67 rfl) ?_
  refine xi_goto (pc' := 12) kc_67_57 rfl ?_
  refine xi_iload_n (pc' := 13) (x := 2) kc_67_12 rfl rfl ?_
  refine xi_iload_n (pc' := 14) (x := 16) kc_67_13 rfl rfl ?_
  refine xi_cmf (pc' := 17) kc_67_14 rfl rfl ?_
  refine xi_iload_n (pc' := 18) (x := 0) kc_67_17 rfl rfl ?_
  refine xi_aload_n (pc' := 19) (x := 115) kc_67_18 rfl rfl ?_
  refine xi_getfield (pc' := 22) (v := .ref 158) kc_67_19 rfl rfl rfl e115 rfl ?_
  refine xi_iload_n (pc' := 23) (x := 16) kc_67_22 rfl rfl ?_
  refine xi_iaload (pc' := 24) (v := 2) kc_67_23 rfl e158 (by decide) rfl (xi_in (n := 24) (by decide) (by decide)) rfl ?_
  refine xi_iconst (pc' := 25) (v := 1) kc_67_24 rfl rfl ?_
  refine xi_cmt (pc' := 51) kc_67_25 rfl rfl ?_
  refine xi_iconst (pc' := 52) (v := 0) kc_67_51 rfl rfl ?_
  refine xi_iadd (pc' := 53) (v := 0) kc_67_52 rfl rfl ?_
  refine xi_istore_n (pc' := 54) (lv' := [(1, .int 0), (3, .int 2), (2, .int 16), (0, .ref 115)]) kc_67_53 rfl rfl (xm_lt ml_67 rfl) ?_
  refine xi_iinc (pc' := 57) (x := 2) (v := 3) (lv' := [(3, .int 3), (1, .int 0), (2, .int 16), (0, .ref 115)]) kc_67_54 rfl rfl rfl rfl (xm_lt ml_67 rfl) ?_
  refine xi_goto (pc' := 12) kc_67_57 rfl ?_
  refine xi_iload_n (pc' := 13) (x := 3) kc_67_12 rfl rfl ?_
  refine xi_iload_n (pc' := 14) (x := 16) kc_67_13 rfl rfl ?_
  refine xi_cmf (pc' := 17) kc_67_14 rfl rfl ?_
  refine xi_iload_n (pc' := 18) (x := 0) kc_67_17 rfl rfl ?_
  refine xi_aload_n (pc' := 19) (x := 115) kc_67_18 rfl rfl ?_
  refine xi_getfield (pc' := 22) (v := .ref 158) kc_67_19 rfl rfl rfl e115 rfl ?_
  refine xi_iload_n (pc' := 23) (x := 16) kc_67_22 rfl rfl ?_
  refine xi_iaload (pc' := 24) (v := 2) kc_67_23 rfl e158 (by decide) rfl (xi_in (n := 24) (by decide) (by decide)) rfl ?_
  refine xi_iconst (pc' := 25) (v := 1) kc_67_24 rfl rfl ?_
  refine xi_cmt (pc' := 51) kc_67_25 rfl rfl ?_
  refine xi_iconst (pc' := 52) (v := 0) kc_67_51 rfl rfl ?_
  refine xi_iadd (pc' := 53) (v := 0) kc_67_52 rfl rfl ?_
  refine xi_istore_n (pc' := 54) (lv' := [(1, .int 0), (3, .int 3), (2, .int 16), (0, .ref 115)]) kc_67_53 rfl rfl (xm_lt ml_67 rfl) ?_
  refine xi_iinc (pc' := 57) (x := 3) (v := 4) (lv' := [(3, .int 4), (1, .int 0), (2, .int 16), (0, .ref 115)]) kc_67_54 rfl rfl rfl rfl (xm_lt ml_67 rfl) ?_
  refine xi_goto (pc' := 12) kc_67_57 rfl ?_
  refine xi_iload_n (pc' := 13) (x := 4) kc_67_12 rfl rfl ?_
  refine xi_iload_n (pc' := 14) (x := 16) kc_67_13 rfl rfl ?_
  refine xi_cmf (pc' := 17) kc_67_14 rfl rfl ?_
  refine xi_iload_n (pc' := 18) (x := 0) kc_67_17 rfl rfl ?_
  refine xi_aload_n (pc' := 19) (x := 115) kc_67_18 rfl rfl ?_
  refine xi_getfield (pc' := 22) (v := .ref 158) kc_67_19 rfl rfl rfl e115 rfl ?_
  refine xi_iload_n (pc' := 23) (x := 16) kc_67_22 rfl rfl ?_
  refine xi_iaload (pc' := 24) (v := 2) kc_67_23 rfl e158 (by decide) rfl (xi_in (n := 24) (by decide) (by decide)) rfl ?_
  refine xi_iconst (pc' := 25) (v := 1) kc_67_24 rfl rfl ?_
  refine xi_cmt (pc' := 51) kc_67_25 rfl rfl ?_
  refine xi_iconst (pc' := 52) (v := 0) kc_67_51 rfl rfl ?_
  refine xi_iadd (pc' := 53) (v := 0) kc_67_52 rfl rfl ?_
  refine xi_istore_n (pc' := 54) (lv' := [(1, .int 0), (3, .int 4), (2, .int 16), (0, .ref 115)]) kc_67_53 rfl rfl (xm_lt ml_67 rfl) ?_
  refine xi_iinc (pc' := 57) (x := 4) (v := 5) (lv' := [(3, .int 5), (1, .int 0), (2, .int 16), (0, .ref 115)]) kc_67_54 rfl rfl rfl rfl (xm_lt ml_67 rfl) ?_
  refine xi_goto (pc' := 12) kc_67_57 rfl ?_
  refine xi_iload_n (pc' := 13) (x := 5) kc_67_12 rfl rfl ?_
  refine xi_iload_n (pc' := 14) (x := 16) kc_67_13 rfl rfl ?_
  refine xi_cmf (pc' := 17) kc_67_14 rfl rfl ?_
  refine xi_iload_n (pc' := 18) (x := 0) kc_67_17 rfl rfl ?_
  refine xi_aload_n (pc' := 19) (x := 115) kc_67_18 rfl rfl ?_
  refine xi_getfield (pc' := 22) (v := .ref 158) kc_67_19 rfl rfl rfl e115 rfl ?_
  refine xi_iload_n (pc' := 23) (x := 16) kc_67_22 rfl rfl ?_
  refine xi_iaload (pc' := 24) (v := 2) kc_67_23 rfl e158 (by decide) rfl (xi_in (n := 24) (by decide) (by decide)) rfl ?_
  refine xi_iconst (pc' := 25) (v := 1) kc_67_24 rfl rfl ?_
  refine xi_cmt (pc' := 51) kc_67_25 rfl rfl ?_
  refine xi_iconst (pc' := 52) (v := 0) kc_67_51 rfl rfl ?_
  refine xi_iadd (pc' := 53) (v := 0) kc_67_52 rfl rfl ?_
  refine xi_istore_n (pc' := 54) (lv' := [(1, .int 0), (3, .int 5), (2, .int 16), (0, .ref 115)]) kc_67_53 rfl rfl (xm_lt ml_67 rfl) ?_
  refine xi_iinc (pc' := 57) (x := 5) (v := 6) (lv' := [(3, .int 6), (1, .int 0), (2, .int 16), (0, .ref 115)]) kc_67_54 rfl rfl rfl rfl (xm_lt ml_67 rfl) ?_
  refine xi_goto (pc' := 12) kc_67_57 rfl ?_
  refine xi_iload_n (pc' := 13) (x := 6) kc_67_12 rfl rfl ?_
  refine xi_iload_n (pc' := 14) (x := 16) kc_67_13 rfl rfl ?_
  refine xi_cmf (pc' := 17) kc_67_14 rfl rfl ?_
  refine xi_iload_n (pc' := 18) (x := 0) kc_67_17 rfl rfl ?_
  refine xi_aload_n (pc' := 19) (x := 115) kc_67_18 rfl rfl ?_
  refine xi_getfield (pc' := 22) (v := .ref 158) kc_67_19 rfl rfl rfl e115 rfl ?_
  refine xi_iload_n (pc' := 23) (x := 16) kc_67_22 rfl rfl ?_
  refine xi_iaload (pc' := 24) (v := 2) kc_67_23 rfl e158 (by decide) rfl (xi_in (n := 24) (by decide) (by decide)) rfl ?_
  refine xi_iconst (pc' := 25) (v := 1) kc_67_24 rfl rfl ?_
  refine xi_cmt (pc' := 51) kc_67_25 rfl rfl ?_
  refine xi_iconst (pc' := 52) (v := 0) kc_67_51 rfl rfl ?_
  refine xi_iadd (pc' := 53) (v := 0) kc_67_52 rfl rfl ?_
  refine xi_istore_n (pc' := 54) (lv' := [(1, .int 0), (3, .int 6), (2, .int 16), (0, .ref 115)]) kc_67_53 rfl rfl (xm_lt ml_67 rfl) ?_
  refine xi_iinc (pc' := 57) (x := 6) (v := 7) (lv' := [(3, .int 7), (1, .int 0), (2, .int 16), (0, .ref 115)]) kc_67_54 rfl rfl rfl rfl (xm_lt ml_67 rfl) ?_
  refine xi_goto (pc' := 12) kc_67_57 rfl ?_
  refine xi_iload_n (pc' := 13) (x := 7) kc_67_12 rfl rfl ?_
  refine xi_iload_n (pc' := 14) (x := 16) kc_67_13 rfl rfl ?_
  refine xi_cmf (pc' := 17) kc_67_14 rfl rfl ?_
  refine xi_iload_n (pc' := 18) (x := 0) kc_67_17 rfl rfl ?_
  refine xi_aload_n (pc' := 19) (x := 115) kc_67_18 rfl rfl ?_
  refine xi_getfield (pc' := 22) (v := .ref 158) kc_67_19 rfl rfl rfl e115 rfl ?_
  refine xi_iload_n (pc' := 23) (x := 16) kc_67_22 rfl rfl ?_
  refine xi_iaload (pc' := 24) (v := 2) kc_67_23 rfl e158 (by decide) rfl (xi_in (n := 24) (by decide) (by decide)) rfl ?_
  refine xi_iconst (pc' := 25) (v := 1) kc_67_24 rfl rfl ?_
  refine xi_cmt (pc' := 51) kc_67_25 rfl rfl ?_
  refine xi_iconst (pc' := 52) (v := 0) kc_67_51 rfl rfl ?_
  refine xi_iadd (pc' := 53) (v := 0) kc_67_52 rfl rfl ?_
  refine xi_istore_n (pc' := 54) (lv' := [(1, .int 0), (3, .int 7), (2, .int 16), (0, .ref 115)]) kc_67_53 rfl rfl (xm_lt ml_67 rfl) ?_
  refine xi_iinc (pc' := 57) (x := 7) (v := 8) (lv' := [(3, .int 8), (1, .int 0), (2, .int 16), (0, .ref 115)]) kc_67_54 rfl rfl rfl rfl (xm_lt ml_67 rfl) ?_
  refine xi_goto (pc' := 12) kc_67_57 rfl ?_
  refine xi_iload_n (pc' := 13) (x := 8) kc_67_12 rfl rfl ?_
  refine xi_iload_n (pc' := 14) (x := 16) kc_67_13 rfl rfl ?_
  refine xi_cmf (pc' := 17) kc_67_14 rfl rfl ?_
  refine xi_iload_n (pc' := 18) (x := 0) kc_67_17 rfl rfl ?_
  refine xi_aload_n (pc' := 19) (x := 115) kc_67_18 rfl rfl ?_
  refine xi_getfield (pc' := 22) (v := .ref 158) kc_67_19 rfl rfl rfl e115 rfl ?_
  refine xi_iload_n (pc' := 23) (x := 16) kc_67_22 rfl rfl ?_
  refine xi_iaload (pc' := 24) (v := 2) kc_67_23 rfl e158 (by decide) rfl (xi_in (n := 24) (by decide) (by decide)) rfl ?_
  refine xi_iconst (pc' := 25) (v := 1) kc_67_24 rfl rfl ?_
  refine xi_cmt (pc' := 51) kc_67_25 rfl rfl ?_
  refine xi_iconst (pc' := 52) (v := 0) kc_67_51 rfl rfl ?_
  refine xi_iadd (pc' := 53) (v := 0) kc_67_52 rfl rfl ?_
  refine xi_istore_n (pc' := 54) (lv' := [(1, .int 0), (3, .int 8), (2, .int 16), (0, .ref 115)]) kc_67_53 rfl rfl (xm_lt ml_67 rfl) ?_
  refine xi_iinc (pc' := 57) (x := 8) (v := 9) (lv' := [(3, .int 9), (1, .int 0), (2, .int 16), (0, .ref 115)]) kc_67_54 rfl rfl rfl rfl (xm_lt ml_67 rfl) ?_
  refine xi_goto (pc' := 12) kc_67_57 rfl ?_
  refine xi_iload_n (pc' := 13) (x := 9) kc_67_12 rfl rfl ?_
  refine xi_iload_n (pc' := 14) (x := 16) kc_67_13 rfl rfl ?_
  refine xi_cmf (pc' := 17) kc_67_14 rfl rfl ?_
  refine xi_iload_n (pc' := 18) (x := 0) kc_67_17 rfl rfl ?_
  refine xi_aload_n (pc' := 19) (x := 115) kc_67_18 rfl rfl ?_
  refine xi_getfield (pc' := 22) (v := .ref 158) kc_67_19 rfl rfl rfl e115 rfl ?_
  refine xi_iload_n (pc' := 23) (x := 16) kc_67_22 rfl rfl ?_
  refine xi_iaload (pc' := 24) (v := 2) kc_67_23 rfl e158 (by decide) rfl (xi_in (n := 24) (by decide) (by decide)) rfl ?_
  refine xi_iconst (pc' := 25) (v := 1) kc_67_24 rfl rfl ?_
  refine xi_cmt (pc' := 51) kc_67_25 rfl rfl ?_
  refine xi_iconst (pc' := 52) (v := 0) kc_67_51 rfl rfl ?_
  refine xi_iadd (pc' := 53) (v := 0) kc_67_52 rfl rfl ?_
  refine xi_istore_n (pc' := 54) (lv' := [(1, .int 0), (3, .int 9), (2, .int 16), (0, .ref 115)]) kc_67_53 rfl rfl (xm_lt ml_67 rfl) ?_
  refine xi_iinc (pc' := 57) (x := 9) (v := 10) (lv' := [(3, .int 10), (1, .int 0), (2, .int 16), (0, .ref 115)]) kc_67_54 rfl rfl rfl rfl (xm_lt ml_67 rfl) ?_
  refine xi_goto (pc' := 12) kc_67_57 rfl ?_
  refine xi_iload_n (pc' := 13) (x := 10) kc_67_12 rfl rfl ?_
  refine xi_iload_n (pc' := 14) (x := 16) kc_67_13 rfl rfl ?_
  refine xi_cmf (pc' := 17) kc_67_14 rfl rfl ?_
  refine xi_iload_n (pc' := 18) (x := 0) kc_67_17 rfl rfl ?_
  refine xi_aload_n (pc' := 19) (x := 115) kc_67_18 rfl rfl ?_
  refine xi_getfield (pc' := 22) (v := .ref 158) kc_67_19 rfl rfl rfl e115 rfl ?_
  refine xi_iload_n (pc' := 23) (x := 16) kc_67_22 rfl rfl ?_
  refine xi_iaload (pc' := 24) (v := 2) kc_67_23 rfl e158 (by decide) rfl (xi_in (n := 24) (by decide) (by decide)) rfl ?_
  refine xi_iconst (pc' := 25) (v := 1) kc_67_24 rfl rfl ?_
  refine xi_cmt (pc' := 51) kc_67_25 rfl rfl ?_
  refine xi_iconst (pc' := 52) (v := 0) kc_67_51 rfl rfl ?_
  refine xi_iadd (pc' := 53) (v := 0) kc_67_52 rfl rfl ?_
  refine xi_istore_n (pc' := 54) (lv' := [(1, .int 0), (3, .int 10), (2, .int 16), (0, .ref 115)]) kc_67_53 rfl rfl (xm_lt ml_67 rfl) ?_
  refine xi_iinc (pc' := 57) (x := 10) (v := 11) (lv' := [(3, .int 11), (1, .int 0), (2, .int 16), (0, .ref 115)]) kc_67_54 rfl rfl rfl rfl (xm_lt ml_67 rfl) ?_
  refine xi_goto (pc' := 12) kc_67_57 rfl ?_
  refine xi_iload_n (pc' := 13) (x := 11) kc_67_12 rfl rfl ?_
  refine xi_iload_n (pc' := 14) (x := 16) kc_67_13 rfl rfl ?_
  refine xi_cmf (pc' := 17) kc_67_14 rfl rfl ?_
  refine xi_iload_n (pc' := 18) (x := 0) kc_67_17 rfl rfl ?_
  refine xi_aload_n (pc' := 19) (x := 115) kc_67_18 rfl rfl ?_
  refine xi_getfield (pc' := 22) (v := .ref 158) kc_67_19 rfl rfl rfl e115 rfl ?_
  refine xi_iload_n (pc' := 23) (x := 16) kc_67_22 rfl rfl ?_
  refine xi_iaload (pc' := 24) (v := 2) kc_67_23 rfl e158 (by decide) rfl (xi_in (n := 24) (by decide) (by decide)) rfl ?_
  refine xi_iconst (pc' := 25) (v := 1) kc_67_24 rfl rfl ?_
  refine xi_cmt (pc' := 51) kc_67_25 rfl rfl ?_
  refine xi_iconst (pc' := 52) (v := 0) kc_67_51 rfl rfl ?_
  refine xi_iadd (pc' := 53) (v := 0) kc_67_52 rfl rfl ?_
  refine xi_istore_n (pc' := 54) (lv' := [(1, .int 0), (3, .int 11), (2, .int 16), (0, .ref 115)]) kc_67_53 rfl rfl (xm_lt ml_67 rfl) ?_
  refine xi_iinc (pc' := 57) (x := 11) (v := 12) (lv' := [(3, .int 12), (1, .int 0), (2, .int 16), (0, .ref 115)]) kc_67_54 rfl rfl rfl rfl (xm_lt ml_67 rfl) ?_
  refine xi_goto (pc' := 12) kc_67_57 rfl ?_
  refine xi_iload_n (pc' := 13) (x := 12) kc_67_12 rfl rfl ?_
  refine xi_iload_n (pc' := 14) (x := 16) kc_67_13 rfl rfl ?_
  refine xi_cmf (pc' := 17) kc_67_14 rfl rfl ?_
  refine xi_iload_n (pc' := 18) (x := 0) kc_67_17 rfl rfl ?_
  refine xi_aload_n (pc' := 19) (x := 115) kc_67_18 rfl rfl ?_
  refine xi_getfield (pc' := 22) (v := .ref 158) kc_67_19 rfl rfl rfl e115 rfl ?_
  refine xi_iload_n (pc' := 23) (x := 16) kc_67_22 rfl rfl ?_
  refine xi_iaload (pc' := 24) (v := 2) kc_67_23 rfl e158 (by decide) rfl (xi_in (n := 24) (by decide) (by decide)) rfl ?_
  refine xi_iconst (pc' := 25) (v := 1) kc_67_24 rfl rfl ?_
  refine xi_cmt (pc' := 51) kc_67_25 rfl rfl ?_
  refine xi_iconst (pc' := 52) (v := 0) kc_67_51 rfl rfl ?_
  refine xi_iadd (pc' := 53) (v := 0) kc_67_52 rfl rfl ?_
  refine xi_istore_n (pc' := 54) (lv' := [(1, .int 0), (3, .int 12), (2, .int 16), (0, .ref 115)]) kc_67_53 rfl rfl (xm_lt ml_67 rfl) ?_
  refine xi_iinc (pc' := 57) (x := 12) (v := 13) (lv' := [(3, .int 13), (1, .int 0), (2, .int 16), (0, .ref 115)]) kc_67_54 rfl rfl rfl rfl (xm_lt ml_67 rfl) ?_
  refine xi_goto (pc' := 12) kc_67_57 rfl ?_
  refine xi_iload_n (pc' := 13) (x := 13) kc_67_12 rfl rfl ?_
  refine xi_iload_n (pc' := 14) (x := 16) kc_67_13 rfl rfl ?_
  refine xi_cmf (pc' := 17) kc_67_14 rfl rfl ?_
  refine xi_iload_n (pc' := 18) (x := 0) kc_67_17 rfl rfl ?_
  refine xi_aload_n (pc' := 19) (x := 115) kc_67_18 rfl rfl ?_
  refine xi_getfield (pc' := 22) (v := .ref 158) kc_67_19 rfl rfl rfl e115 rfl ?_
  refine xi_iload_n (pc' := 23) (x := 16) kc_67_22 rfl rfl ?_
  refine xi_iaload (pc' := 24) (v := 2) kc_67_23 rfl e158 (by decide) rfl (xi_in (n := 24) (by decide) (by decide)) rfl ?_
  refine xi_iconst (pc' := 25) (v := 1) kc_67_24 rfl rfl ?_
  refine xi_cmt (pc' := 51) kc_67_25 rfl rfl ?_
  refine xi_iconst (pc' := 52) (v := 0) kc_67_51 rfl rfl ?_
  refine xi_iadd (pc' := 53) (v := 0) kc_67_52 rfl rfl ?_
  refine xi_istore_n (pc' := 54) (lv' := [(1, .int 0), (3, .int 13), (2, .int 16), (0, .ref 115)]) kc_67_53 rfl rfl (xm_lt ml_67 rfl) ?_
  refine xi_iinc (pc' := 57) (x := 13) (v := 14) (lv' := [(3, .int 14), (1, .int 0), (2, .int 16), (0, .ref 115)]) kc_67_54 rfl rfl rfl rfl (xm_lt ml_67 rfl) ?_
  refine xi_goto (pc' := 12) kc_67_57 rfl ?_
  refine xi_iload_n (pc' := 13) (x := 14) kc_67_12 rfl rfl ?_
  refine xi_iload_n (pc' := 14) (x := 16) kc_67_13 rfl rfl ?_
  refine xi_cmf (pc' := 17) kc_67_14 rfl rfl ?_
  refine xi_iload_n (pc' := 18) (x := 0) kc_67_17 rfl rfl ?_
  refine xi_aload_n (pc' := 19) (x := 115) kc_67_18 rfl rfl ?_
  refine xi_getfield (pc' := 22) (v := .ref 158) kc_67_19 rfl rfl rfl e115 rfl ?_
  refine xi_iload_n (pc' := 23) (x := 16) kc_67_22 rfl rfl ?_
  refine xi_iaload (pc' := 24) (v := 2) kc_67_23 rfl e158 (by decide) rfl (xi_in (n := 24) (by decide) (by decide)) rfl ?_
  refine xi_iconst (pc' := 25) (v := 1) kc_67_24 rfl rfl ?_
  refine xi_cmt (pc' := 51) kc_67_25 rfl rfl ?_
  refine xi_iconst (pc' := 52) (v := 0) kc_67_51 rfl rfl ?_
  refine xi_iadd (pc' := 53) (v := 0) kc_67_52 rfl rfl ?_
  refine xi_istore_n (pc' := 54) (lv' := [(1, .int 0), (3, .int 14), (2, .int 16), (0, .ref 115)]) kc_67_53 rfl rfl (xm_lt ml_67 rfl) ?_
  refine xi_iinc (pc' := 57) (x := 14) (v := 15) (lv' := [(3, .int 15), (1, .int 0), (2, .int 16), (0, .ref 115)]) kc_67_54 rfl rfl rfl rfl (xm_lt ml_67 rfl) ?_
  refine xi_goto (pc' := 12) kc_67_57 rfl ?_
  refine xi_iload_n (pc' := 13) (x := 15) kc_67_12 rfl rfl ?_
  refine xi_iload_n (pc' := 14) (x := 16) kc_67_13 rfl rfl ?_
  refine xi_cmf (pc' := 17) kc_67_14 rfl rfl ?_
  refine xi_iload_n (pc' := 18) (x := 0) kc_67_17 rfl rfl ?_
  refine xi_aload_n (pc' := 19) (x := 115) kc_67_18 rfl rfl ?_
  refine xi_getfield (pc' := 22) (v := .ref 158) kc_67_19 rfl rfl rfl e115 rfl ?_
  refine xi_iload_n (pc' := 23) (x := 16) kc_67_22 rfl rfl ?_
  refine xi_iaload (pc' := 24) (v := 2) kc_67_23 rfl e158 (by decide) rfl (xi_in (n := 24) (by decide) (by decide)) rfl ?_
  refine xi_iconst (pc' := 25) (v := 1) kc_67_24 rfl rfl ?_
  refine xi_cmt (pc' := 51) kc_67_25 rfl rfl ?_
  refine xi_iconst (pc' := 52) (v := 0) kc_67_51 rfl rfl ?_
  refine xi_iadd (pc' := 53) (v := 0) kc_67_52 rfl rfl ?_
  refine xi_istore_n (pc' := 54) (lv' := [(1, .int 0), (3, .int 15), (2, .int 16), (0, .ref 115)]) kc_67_53 rfl rfl (xm_lt ml_67 rfl) ?_
  refine xi_iinc (pc' := 57) (x := 15) (v := 16) (lv' := [(3, .int 16), (1, .int 0), (2, .int 16), (0, .ref 115)]) kc_67_54 rfl rfl rfl rfl (xm_lt ml_67 rfl) ?_
  refine xi_goto (pc' := 12) kc_67_57 rfl ?_
  refine xi_iload_n (pc' := 13) (x := 16) kc_67_12 rfl rfl ?_
  refine xi_iload_n (pc' := 14) (x := 16) kc_67_13 rfl rfl ?_
  refine xi_cmt (pc' := 60) kc_67_14 rfl rfl ?_
  refine xi_iinc (pc' := 63) (x := 16) (v := 17) (lv' := [(2, .int 17), (3, .int 16), (1, .int 0), (0, .ref 115)]) kc_67_60 rfl rfl rfl rfl (xm_lt ml_67 rfl) ?_
  refine xi_goto (pc' := 4) kc_67_63 rfl ?_
  refine xi_iload_n (pc' := 5) (x := 17) kc_67_4 rfl rfl ?_
  refine xi_bipush (pc' := 7) (v := 24) kc_67_5 rfl rfl ?_
  refine xi_cmf (pc' := 10) kc_67_7 rfl rfl ?_
  refine xi_iconst (pc' := 11) (v := 0) kc_67_10 rfl rfl ?_
  refine xi_istore_n (pc' := 12) (lv' := [(3, .int 0), (2, .int 17), (1, .int 0), (0, .ref 115)]) kc_67_11 rfl rfl (xm_lt ml_67 rfl) ?_
  refine xi_iload_n (pc' := 13) (x := 0) kc_67_12 rfl rfl ?_
  refine xi_iload_n (pc' := 14) (x := 17) kc_67_13 rfl rfl ?_
  refine xi_cmf (pc' := 17) kc_67_14 rfl rfl ?_
  refine xi_iload_n (pc' := 18) (x := 0) kc_67_17 rfl rfl ?_
  refine xi_aload_n (pc' := 19) (x := 115) kc_67_18 rfl rfl ?_
  refine xi_getfield (pc' := 22) (v := .ref 158) kc_67_19 rfl rfl rfl e115 rfl ?_
  refine xi_iload_n (pc' := 23) (x := 17) kc_67_22 rfl rfl ?_
  refine xi_iaload (pc' := 24) (v := 2) kc_67_23 rfl e158 (by decide) rfl (xi_in (n := 24) (by decide) (by decide)) rfl ?_
  refine xi_iconst (pc' := 25) (v := 1) kc_67_24 rfl rfl ?_
  refine xi_cmt (pc' := 51) kc_67_25 rfl rfl ?_
  refine xi_iconst (pc' := 52) (v := 0) kc_67_51 rfl rfl ?_
  refine xi_iadd (pc' := 53) (v := 0) kc_67_52 rfl rfl ?_
  refine xi_istore_n (pc' := 54) (lv' := [(1, .int 0), (3, .int 0), (2, .int 17), (0, .ref 115)]) kc_67_53 rfl rfl (xm_lt ml_67 rfl) ?_
  refine xi_iinc (pc' := 57) (x := 0) (v := 1) (lv' := [(3, .int 1), (1, .int 0), (2, .int 17), (0, .ref 115)]) kc_67_54 rfl rfl rfl rfl (xm_lt ml_67 rfl) ?_
  refine xi_goto (pc' := 12) kc_67_57 rfl ?_
  refine xi_iload_n (pc' := 13) (x := 1) kc_67_12 rfl rfl ?_
  refine xi_iload_n (pc' := 14) (x := 17) kc_67_13 rfl rfl ?_
  refine xi_cmf (pc' := 17) kc_67_14 rfl rfl ?_
  refine xi_iload_n (pc' := 18) (x := 0) kc_67_17 rfl rfl ?_
  refine xi_aload_n (pc' := 19) (x := 115) kc_67_18 rfl rfl ?_
  refine xi_getfield (pc' := 22) (v := .ref 158) kc_67_19 rfl rfl rfl e115 rfl ?_
  refine xi_iload_n (pc' := 23) (x := 17) kc_67_22 rfl rfl ?_
  refine xi_iaload (pc' := 24) (v := 2) kc_67_23 rfl e158 (by decide) rfl (xi_in (n := 24) (by decide) (by decide)) rfl ?_
  refine xi_iconst (pc' := 25) (v := 1) kc_67_24 rfl rfl ?_
  refine xi_cmt (pc' := 51) kc_67_25 rfl rfl ?_
  refine xi_iconst (pc' := 52) (v := 0) kc_67_51 rfl rfl ?_
  refine xi_iadd (pc' := 53) (v := 0) kc_67_52 rfl rfl ?_
  refine xi_istore_n (pc' := 54) (lv' := [(1, .int 0), (3, .int 1), (2, .int 17), (0, .ref 115)]) kc_67_53 rfl rfl (xm_lt ml_67 rfl) ?_
  refine xi_iinc (pc' := 57) (x := 1) (v := 2) (lv' := [(3, .int 2), (1, .int 0), (2, .int 17), (0, .ref 115)]) kc_67_54 rfl rfl rfl rfl (xm_lt ml_67 rfl) ?_
  refine xi_goto (pc' := 12) kc_67_57 rfl ?_
  refine xi_iload_n (pc' := 13) (x := 2) kc_67_12 rfl rfl ?_
  refine xi_iload_n (pc' := 14) (x := 17) kc_67_13 rfl rfl ?_
  refine xi_cmf (pc' := 17) kc_67_14 rfl rfl ?_
  refine xi_iload_n (pc' := 18) (x := 0) kc_67_17 rfl rfl ?_
  refine xi_aload_n (pc' := 19) (x := 115) kc_67_18 rfl rfl ?_
  refine xi_getfield (pc' := 22) (v := .ref 158) kc_67_19 rfl rfl rfl e115 rfl ?_
  refine xi_iload_n (pc' := 23) (x := 17) kc_67_22 rfl rfl ?_
  refine xi_iaload (pc' := 24) (v := 2) kc_67_23 rfl e158 (by decide) rfl (xi_in (n := 24) (by decide) (by decide)) rfl ?_
  refine xi_iconst (pc' := 25) (v := 1) kc_67_24 rfl rfl ?_
  refine xi_cmt (pc' := 51) kc_67_25 rfl rfl ?_
  refine xi_iconst (pc' := 52) (v := 0) kc_67_51 rfl rfl ?_
  refine xi_iadd (pc' := 53) (v := 0) kc_67_52 rfl rfl ?_
  refine xi_istore_n (pc' := 54) (lv' := [(1, .int 0), (3, .int 2), (2, .int 17), (0, .ref 115)]) kc_67_53 rfl rfl (xm_lt ml_67 rfl) ?_
  refine xi_iinc (pc' := 57) (x := 2) (v := 3) (lv' := [(3, .int 3), (1, .int 0), (2, .int 17), (0, .ref 115)]) kc_67_54 rfl rfl rfl rfl (xm_lt ml_67 rfl) ?_
  refine xi_goto (pc' := 12) kc_67_57 rfl ?_
  refine xi_iload_n (pc' := 13) (x := 3) kc_67_12 rfl rfl ?_
  refine xi_iload_n (pc' := 14) (x := 17) kc_67_13 rfl rfl ?_
  refine xi_cmf (pc' := 17) kc_67_14 rfl rfl ?_
  refine xi_iload_n (pc' := 18) (x := 0) kc_67_17 rfl rfl ?_
  refine xi_aload_n (pc' := 19) (x := 115) kc_67_18 rfl rfl ?_
  refine xi_getfield (pc' := 22) (v := .ref 158) kc_67_19 rfl rfl rfl e115 rfl ?_
  refine xi_iload_n (pc' := 23) (x := 17) kc_67_22 rfl rfl ?_
  refine xi_iaload (pc' := 24) (v := 2) kc_67_23 rfl e158 (by decide) rfl (xi_in (n := 24) (by decide) (by decide)) rfl ?_
  refine xi_iconst (pc' := 25) (v := 1) kc_67_24 rfl rfl ?_
  refine xi_cmt (pc' := 51) kc_67_25 rfl rfl ?_
  refine xi_iconst (pc' := 52) (v := 0) kc_67_51 rfl rfl ?_
  refine xi_iadd (pc' := 53) (v := 0) kc_67_52 rfl rfl ?_
  refine xi_istore_n (pc' := 54) (lv' := [(1, .int 0), (3, .int 3), (2, .int 17), (0, .ref 115)]) kc_67_53 rfl rfl (xm_lt ml_67 rfl) ?_
  refine xi_iinc (pc' := 57) (x := 3) (v := 4) (lv' := [(3, .int 4), (1, .int 0), (2, .int 17), (0, .ref 115)]) kc_67_54 rfl rfl rfl rfl (xm_lt ml_67 rfl) ?_
  refine xi_goto (pc' := 12) kc_67_57 rfl ?_
  refine xi_iload_n (pc' := 13) (x := 4) kc_67_12 rfl rfl ?_
  refine xi_iload_n (pc' := 14) (x := 17) kc_67_13 rfl rfl ?_
  refine xi_cmf (pc' := 17) kc_67_14 rfl rfl ?_
  refine xi_iload_n (pc' := 18) (x := 0) kc_67_17 rfl rfl ?_
  refine xi_aload_n (pc' := 19) (x := 115) kc_67_18 rfl rfl ?_
  refine xi_getfield (pc' := 22) (v := .ref 158) kc_67_19 rfl rfl rfl e115 rfl ?_
  refine xi_iload_n (pc' := 23) (x := 17) kc_67_22 rfl rfl ?_
  refine xi_iaload (pc' := 24) (v := 2) kc_67_23 rfl e158 (by decide) rfl (xi_in (n := 24) (by decide) (by decide)) rfl ?_
  refine xi_iconst (pc' := 25) (v := 1) kc_67_24 rfl rfl ?_
  refine xi_cmt (pc' := 51) kc_67_25 rfl rfl ?_
  refine xi_iconst (pc' := 52) (v := 0) kc_67_51 rfl rfl ?_
  refine xi_iadd (pc' := 53) (v := 0) kc_67_52 rfl rfl ?_
  refine xi_istore_n (pc' := 54) (lv' := [(1, .int 0), (3, .int 4), (2, .int 17), (0, .ref 115)]) kc_67_53 rfl rfl (xm_lt ml_67 rfl) ?_
  refine xi_iinc (pc' := 57) (x := 4) (v := 5) (lv' := [(3, .int 5), (1, .int 0), (2, .int 17), (0, .ref 115)]) kc_67_54 rfl rfl rfl rfl (xm_lt ml_67 rfl) ?_
  refine xi_goto (pc' := 12) kc_67_57 rfl ?_
  refine xi_iload_n (pc' := 13) (x := 5) kc_67_12 rfl rfl ?_
  refine xi_iload_n (pc' := 14) (x := 17) kc_67_13 rfl rfl ?_
  refine xi_cmf (pc' := 17) kc_67_14 rfl rfl ?_
  refine xi_iload_n (pc' := 18) (x := 0) kc_67_17 rfl rfl ?_
  refine xi_aload_n (pc' := 19) (x := 115) kc_67_18 rfl rfl ?_
  refine xi_getfield (pc' := 22) (v := .ref 158) kc_67_19 rfl rfl rfl e115 rfl ?_
  refine xi_iload_n (pc' := 23) (x := 17) kc_67_22 rfl rfl ?_
  refine xi_iaload (pc' := 24) (v := 2) kc_67_23 rfl e158 (by decide) rfl (xi_in (n := 24) (by decide) (by decide)) rfl ?_
  refine xi_iconst (pc' := 25) (v := 1) kc_67_24 rfl rfl ?_
  refine xi_cmt (pc' := 51) kc_67_25 rfl rfl ?_
  refine xi_iconst (pc' := 52) (v := 0) kc_67_51 rfl rfl ?_
  refine xi_iadd (pc' := 53) (v := 0) kc_67_52 rfl rfl ?_
  refine xi_istore_n (pc' := 54) (lv' := [(1, .int 0), (3, .int 5), (2, .int 17), (0, .ref 115)]) kc_67_53 rfl rfl (xm_lt ml_67 rfl) ?_
  refine xi_iinc (pc' := 57) (x := 5) (v := 6) (lv' := [(3, .int 6), (1, .int 0), (2, .int 17), (0, .ref 115)]) kc_67_54 rfl rfl rfl rfl (xm_lt ml_67 rfl) ?_
  refine xi_goto (pc' := 12) kc_67_57 rfl ?_
  refine xi_iload_n (pc' := 13) (x := 6) kc_67_12 rfl rfl ?_
  refine xi_iload_n (pc' := 14) (x := 17) kc_67_13 rfl rfl ?_
  refine xi_cmf (pc' := 17) kc_67_14 rfl rfl ?_
  refine xi_iload_n (pc' := 18) (x := 0) kc_67_17 rfl rfl ?_
  refine xi_aload_n (pc' := 19) (x := 115) kc_67_18 rfl rfl ?_
  refine xi_getfield (pc' := 22) (v := .ref 158) kc_67_19 rfl rfl rfl e115 rfl ?_
  refine xi_iload_n (pc' := 23) (x := 17) kc_67_22 rfl rfl ?_
  refine xi_iaload (pc' := 24) (v := 2) kc_67_23 rfl e158 (by decide) rfl (xi_in (n := 24) (by decide) (by decide)) rfl ?_
  refine xi_iconst (pc' := 25) (v := 1) kc_67_24 rfl rfl ?_
  refine xi_cmt (pc' := 51) kc_67_25 rfl rfl ?_
  refine xi_iconst (pc' := 52) (v := 0) kc_67_51 rfl rfl ?_
  refine xi_iadd (pc' := 53) (v := 0) kc_67_52 rfl rfl ?_
  refine xi_istore_n (pc' := 54) (lv' := [(1, .int 0), (3, .int 6), (2, .int 17), (0, .ref 115)]) kc_67_53 rfl rfl (xm_lt ml_67 rfl) ?_
  refine xi_iinc (pc' := 57) (x := 6) (v := 7) (lv' := [(3, .int 7), (1, .int 0), (2, .int 17), (0, .ref 115)]) kc_67_54 rfl rfl rfl rfl (xm_lt ml_67 rfl) ?_
  refine xi_goto (pc' := 12) kc_67_57 rfl ?_
  refine xi_iload_n (pc' := 13) (x := 7) kc_67_12 rfl rfl ?_
  refine xi_iload_n (pc' := 14) (x := 17) kc_67_13 rfl rfl ?_
  refine xi_cmf (pc' := 17) kc_67_14 rfl rfl ?_
  refine xi_iload_n (pc' := 18) (x := 0) kc_67_17 rfl rfl ?_
  refine xi_aload_n (pc' := 19) (x := 115) kc_67_18 rfl rfl ?_
  refine xi_getfield (pc' := 22) (v := .ref 158) kc_67_19 rfl rfl rfl e115 rfl ?_
  refine xi_iload_n (pc' := 23) (x := 17) kc_67_22 rfl rfl ?_
  refine xi_iaload (pc' := 24) (v := 2) kc_67_23 rfl e158 (by decide) rfl (xi_in (n := 24) (by decide) (by decide)) rfl ?_
  refine xi_iconst (pc' := 25) (v := 1) kc_67_24 rfl rfl ?_
  refine xi_cmt (pc' := 51) kc_67_25 rfl rfl ?_
  refine xi_iconst (pc' := 52) (v := 0) kc_67_51 rfl rfl ?_
  refine xi_iadd (pc' := 53) (v := 0) kc_67_52 rfl rfl ?_
  refine xi_istore_n (pc' := 54) (lv' := [(1, .int 0), (3, .int 7), (2, .int 17), (0, .ref 115)]) kc_67_53 rfl rfl (xm_lt ml_67 rfl) ?_
  refine xi_iinc (pc' := 57) (x := 7) (v := 8) (lv' := [(3, .int 8), (1, .int 0), (2, .int 17), (0, .ref 115)]) kc_67_54 rfl rfl rfl rfl (xm_lt ml_67 rfl) ?_
  refine xi_goto (pc' := 12) kc_67_57 rfl ?_
  refine xi_iload_n (pc' := 13) (x := 8) kc_67_12 rfl rfl ?_
  refine xi_iload_n (pc' := 14) (x := 17) kc_67_13 rfl rfl ?_
  refine xi_cmf (pc' := 17) kc_67_14 rfl rfl ?_
  refine xi_iload_n (pc' := 18) (x := 0) kc_67_17 rfl rfl ?_
  refine xi_aload_n (pc' := 19) (x := 115) kc_67_18 rfl rfl ?_
  refine xi_getfield (pc' := 22) (v := .ref 158) kc_67_19 rfl rfl rfl e115 rfl ?_
  refine xi_iload_n (pc' := 23) (x := 17) kc_67_22 rfl rfl ?_
  refine xi_iaload (pc' := 24) (v := 2) kc_67_23 rfl e158 (by decide) rfl (xi_in (n := 24) (by decide) (by decide)) rfl ?_
  refine xi_iconst (pc' := 25) (v := 1) kc_67_24 rfl rfl ?_
  refine xi_cmt (pc' := 51) kc_67_25 rfl rfl ?_
  refine xi_iconst (pc' := 52) (v := 0) kc_67_51 rfl rfl ?_
  refine xi_iadd (pc' := 53) (v := 0) kc_67_52 rfl rfl ?_
  refine xi_istore_n (pc' := 54) (lv' := [(1, .int 0), (3, .int 8), (2, .int 17), (0, .ref 115)]) kc_67_53 rfl rfl (xm_lt ml_67 rfl) ?_
  refine xi_iinc (pc' := 57) (x := 8) (v := 9) (lv' := [(3, .int 9), (1, .int 0), (2, .int 17), (0, .ref 115)]) kc_67_54 rfl rfl rfl rfl (xm_lt ml_67 rfl) ?_
  refine xi_goto (pc' := 12) kc_67_57 rfl ?_
  refine xi_iload_n (pc' := 13) (x := 9) kc_67_12 rfl rfl ?_
  refine xi_iload_n (pc' := 14) (x := 17) kc_67_13 rfl rfl ?_
  refine xi_cmf (pc' := 17) kc_67_14 rfl rfl ?_
  refine xi_iload_n (pc' := 18) (x := 0) kc_67_17 rfl rfl ?_
  refine xi_aload_n (pc' := 19) (x := 115) kc_67_18 rfl rfl ?_
  refine xi_getfield (pc' := 22) (v := .ref 158) kc_67_19 rfl rfl rfl e115 rfl ?_
  refine xi_iload_n (pc' := 23) (x := 17) kc_67_22 rfl rfl ?_
  refine xi_iaload (pc' := 24) (v := 2) kc_67_23 rfl e158 (by decide) rfl (xi_in (n := 24) (by decide) (by decide)) rfl ?_
  refine xi_iconst (pc' := 25) (v := 1) kc_67_24 rfl rfl ?_
  refine xi_cmt (pc' := 51) kc_67_25 rfl rfl ?_
  refine xi_iconst (pc' := 52) (v := 0) kc_67_51 rfl rfl ?_
  refine xi_iadd (pc' := 53) (v := 0) kc_67_52 rfl rfl ?_
  refine xi_istore_n (pc' := 54) (lv' := [(1, .int 0), (3, .int 9), (2, .int 17), (0, .ref 115)]) kc_67_53 rfl rfl (xm_lt ml_67 rfl) ?_
  refine xi_iinc (pc' := 57) (x := 9) (v := 10) (lv' := [(3, .int 10), (1, .int 0), (2, .int 17), (0, .ref 115)]) kc_67_54 rfl rfl rfl rfl (xm_lt ml_67 rfl) ?_
  refine xi_goto (pc' := 12) kc_67_57 rfl ?_
  refine xi_iload_n (pc' := 13) (x := 10) kc_67_12 rfl rfl ?_
  refine xi_iload_n (pc' := 14) (x := 17) kc_67_13 rfl rfl ?_
  refine xi_cmf (pc' := 17) kc_67_14 rfl rfl ?_
  refine xi_iload_n (pc' := 18) (x := 0) kc_67_17 rfl rfl ?_
  refine xi_aload_n (pc' := 19) (x := 115) kc_67_18 rfl rfl ?_
  refine xi_getfield (pc' := 22) (v := .ref 158) kc_67_19 rfl rfl rfl e115 rfl ?_
  refine xi_iload_n (pc' := 23) (x := 17) kc_67_22 rfl rfl ?_
  refine xi_iaload (pc' := 24) (v := 2) kc_67_23 rfl e158 (by decide) rfl (xi_in (n := 24) (by decide) (by decide)) rfl ?_
  refine xi_iconst (pc' := 25) (v := 1) kc_67_24 rfl rfl ?_
  refine xi_cmt (pc' := 51) kc_67_25 rfl rfl ?_
  refine xi_iconst (pc' := 52) (v := 0) kc_67_51 rfl rfl ?_
  refine xi_iadd (pc' := 53) (v := 0) kc_67_52 rfl rfl ?_
  refine xi_istore_n (pc' := 54) (lv' := [(1, .int 0), (3, .int 10), (2, .int 17), (0, .ref 115)]) kc_67_53 rfl rfl (xm_lt ml_67 rfl) ?_
  refine xi_iinc (pc' := 57) (x := 10) (v := 11) (lv' := [(3, .int 11), (1, .int 0), (2, .int 17), (0, .ref 115)]) kc_67_54 rfl rfl rfl rfl (xm_lt ml_67 rfl) ?_
  refine xi_goto (pc' := 12) kc_67_57 rfl ?_
  refine xi_iload_n (pc' := 13) (x := 11) kc_67_12 rfl rfl ?_
  refine xi_iload_n (pc' := 14) (x := 17) kc_67_13 rfl rfl ?_
  refine xi_cmf (pc' := 17) kc_67_14 rfl rfl ?_
  refine xi_iload_n (pc' := 18) (x := 0) kc_67_17 rfl rfl ?_
  refine xi_aload_n (pc' := 19) (x := 115) kc_67_18 rfl rfl ?_
  refine xi_getfield (pc' := 22) (v := .ref 158) kc_67_19 rfl rfl rfl e115 rfl ?_
  refine xi_iload_n (pc' := 23) (x := 17) kc_67_22 rfl rfl ?_
  refine xi_iaload (pc' := 24) (v := 2) kc_67_23 rfl e158 (by decide) rfl (xi_in (n := 24) (by decide) (by decide)) rfl ?_
  refine xi_iconst (pc' := 25) (v := 1) kc_67_24 rfl rfl ?_
  refine xi_cmt (pc' := 51) kc_67_25 rfl rfl ?_
  refine xi_iconst (pc' := 52) (v := 0) kc_67_51 rfl rfl ?_
  refine xi_iadd (pc' := 53) (v := 0) kc_67_52 rfl rfl ?_
  refine xi_istore_n (pc' := 54) (lv' := [(1, .int 0), (3, .int 11), (2, .int 17), (0, .ref 115)]) kc_67_53 rfl rfl (xm_lt ml_67 rfl) ?_
  refine xi_iinc (pc' := 57) (x := 11) (v := 12) (lv' := [(3, .int 12), (1, .int 0), (2, .int 17), (0, .ref 115)]) kc_67_54 rfl rfl rfl rfl (xm_lt ml_67 rfl) ?_
  refine xi_goto (pc' := 12) kc_67_57 rfl ?_
  refine xi_iload_n (pc' := 13) (x := 12) kc_67_12 rfl rfl ?_
  refine xi_iload_n (pc' := 14) (x := 17) kc_67_13 rfl rfl ?_
  refine xi_cmf (pc' := 17) kc_67_14 rfl rfl ?_
  refine xi_iload_n (pc' := 18) (x := 0) kc_67_17 rfl rfl ?_
  refine xi_aload_n (pc' := 19) (x := 115) kc_67_18 rfl rfl ?_
  refine xi_getfield (pc' := 22) (v := .ref 158) kc_67_19 rfl rfl rfl e115 rfl ?_
  refine xi_iload_n (pc' := 23) (x := 17) kc_67_22 rfl rfl ?_
  refine xi_iaload (pc' := 24) (v := 2) kc_67_23 rfl e158 (by decide) rfl (xi_in (n := 24) (by decide) (by decide)) rfl ?_
  refine xi_iconst (pc' := 25) (v := 1) kc_67_24 rfl rfl ?_
  refine xi_cmt (pc' := 51) kc_67_25 rfl rfl ?_
  refine xi_iconst (pc' := 52) (v := 0) kc_67_51 rfl rfl ?_
  refine xi_iadd (pc' := 53) (v := 0) kc_67_52 rfl rfl ?_
  refine xi_istore_n (pc' := 54) (lv' := [(1, .int 0), (3, .int 12), (2, .int 17), (0, .ref 115)]) kc_67_53 rfl rfl (xm_lt ml_67 rfl) ?_
  refine xi_iinc (pc' := 57) (x := 12) (v := 13) (lv' := [(3, .int 13), (1, .int 0), (2, .int 17), (0, .ref 115)]) kc_67_54 rfl rfl rfl rfl (xm_lt ml_67 rfl) ?_
  refine xi_goto (pc' := 12) kc_67_57 rfl ?_
  refine xi_iload_n (pc' := 13) (x := 13) kc_67_12 rfl rfl ?_
  refine xi_iload_n (pc' := 14) (x := 17) kc_67_13 rfl rfl ?_
  refine xi_cmf (pc' := 17) kc_67_14 rfl rfl ?_
  refine xi_iload_n (pc' := 18) (x := 0) kc_67_17 rfl rfl ?_
  refine xi_aload_n (pc' := 19) (x := 115) kc_67_18 rfl rfl ?_
  refine xi_getfield (pc' := 22) (v := .ref 158) kc_67_19 rfl rfl rfl e115 rfl ?_
  refine xi_iload_n (pc' := 23) (x := 17) kc_67_22 rfl rfl ?_
  refine xi_iaload (pc' := 24) (v := 2) kc_67_23 rfl e158 (by decide) rfl (xi_in (n := 24) (by decide) (by decide)) rfl ?_
  refine xi_iconst (pc' := 25) (v := 1) kc_67_24 rfl rfl ?_
  refine xi_cmt (pc' := 51) kc_67_25 rfl rfl ?_
  refine xi_iconst (pc' := 52) (v := 0) kc_67_51 rfl rfl ?_
  refine xi_iadd (pc' := 53) (v := 0) kc_67_52 rfl rfl ?_
  refine xi_istore_n (pc' := 54) (lv' := [(1, .int 0), (3, .int 13), (2, .int 17), (0, .ref 115)]) kc_67_53 rfl rfl (xm_lt ml_67 rfl) ?_
  refine xi_iinc (pc' := 57) (x := 13) (v := 14) (lv' := [(3, .int 14), (1, .int 0), (2, .int 17), (0, .ref 115)]) kc_67_54 rfl rfl rfl rfl (xm_lt ml_67 rfl) ?_
  refine xi_goto (pc' := 12) kc_67_57 rfl ?_
  refine xi_iload_n (pc' := 13) (x := 14) kc_67_12 rfl rfl ?_
  refine xi_iload_n (pc' := 14) (x := 17) kc_67_13 rfl rfl ?_
  refine xi_cmf (pc' := 17) kc_67_14 rfl rfl ?_
  refine xi_iload_n (pc' := 18) (x := 0) kc_67_17 rfl rfl ?_
  refine xi_aload_n (pc' := 19) (x := 115) kc_67_18 rfl rfl ?_
  refine xi_getfield (pc' := 22) (v := .ref 158) kc_67_19 rfl rfl rfl e115 rfl ?_
  refine xi_iload_n (pc' := 23) (x := 17) kc_67_22 rfl rfl ?_
  refine xi_iaload (pc' := 24) (v := 2) kc_67_23 rfl e158 (by decide) rfl (xi_in (n := 24) (by decide) (by decide)) rfl ?_
  refine xi_iconst (pc' := 25) (v := 1) kc_67_24 rfl rfl ?_
  refine xi_cmt (pc' := 51) kc_67_25 rfl rfl ?_
  refine xi_iconst (pc' := 52) (v := 0) kc_67_51 rfl rfl ?_
  refine xi_iadd (pc' := 53) (v := 0) kc_67_52 rfl rfl ?_
  refine xi_istore_n (pc' := 54) (lv' := [(1, .int 0), (3, .int 14), (2, .int 17), (0, .ref 115)]) kc_67_53 rfl rfl (xm_lt ml_67 rfl) ?_
  refine xi_iinc (pc' := 57) (x := 14) (v := 15) (lv' := [(3, .int 15), (1, .int 0), (2, .int 17), (0, .ref 115)]) kc_67_54 rfl rfl rfl rfl (xm_lt ml_67 rfl) ?_
  refine xi_goto (pc' := 12) kc_67_57 rfl ?_
  refine xi_iload_n (pc' := 13) (x := 15) kc_67_12 rfl rfl ?_
  refine xi_iload_n (pc' := 14) (x := 17) kc_67_13 rfl rfl ?_
  refine xi_cmf (pc' := 17) kc_67_14 rfl rfl ?_
  refine xi_iload_n (pc' := 18) (x := 0) kc_67_17 rfl rfl ?_
  refine xi_aload_n (pc' := 19) (x := 115) kc_67_18 rfl rfl ?_
  refine xi_getfield (pc' := 22) (v := .ref 158) kc_67_19 rfl rfl rfl e115 rfl ?_
  refine xi_iload_n (pc' := 23) (x := 17) kc_67_22 rfl rfl ?_
  refine xi_iaload (pc' := 24) (v := 2) kc_67_23 rfl e158 (by decide) rfl (xi_in (n := 24) (by decide) (by decide)) rfl ?_
  refine xi_iconst (pc' := 25) (v := 1) kc_67_24 rfl rfl ?_
  refine xi_cmt (pc' := 51) kc_67_25 rfl rfl ?_
  refine xi_iconst (pc' := 52) (v := 0) kc_67_51 rfl rfl ?_
  refine xi_iadd (pc' := 53) (v := 0) kc_67_52 rfl rfl ?_
  refine xi_istore_n (pc' := 54) (lv' := [(1, .int 0), (3, .int 15), (2, .int 17), (0, .ref 115)]) kc_67_53 rfl rfl (xm_lt ml_67 rfl) ?_
  refine xi_iinc (pc' := 57) (x := 15) (v := 16) (lv' := [(3, .int 16), (1, .int 0), (2, .int 17), (0, .ref 115)]) kc_67_54 rfl rfl rfl rfl (xm_lt ml_67 rfl) ?_
  refine xi_goto (pc' := 12) kc_67_57 rfl ?_
  refine xi_iload_n (pc' := 13) (x := 16) kc_67_12 rfl rfl ?_
  refine xi_iload_n (pc' := 14) (x := 17) kc_67_13 rfl rfl ?_
  refine xi_cmf (pc' := 17) kc_67_14 rfl rfl ?_
  refine xi_iload_n (pc' := 18) (x := 0) kc_67_17 rfl rfl ?_
  refine xi_aload_n (pc' := 19) (x := 115) kc_67_18 rfl rfl ?_
  refine xi_getfield (pc' := 22) (v := .ref 158) kc_67_19 rfl rfl rfl e115 rfl ?_
  refine xi_iload_n (pc' := 23) (x := 17) kc_67_22 rfl rfl ?_
  refine xi_iaload (pc' := 24) (v := 2) kc_67_23 rfl e158 (by decide) rfl (xi_in (n := 24) (by decide) (by decide)) rfl ?_
  refine xi_iconst (pc' := 25) (v := 1) kc_67_24 rfl rfl ?_
  refine xi_cmt (pc' := 51) kc_67_25 rfl rfl ?_
  refine xi_iconst (pc' := 52) (v := 0) kc_67_51 rfl rfl ?_
  refine xi_iadd (pc' := 53) (v := 0) kc_67_52 rfl rfl ?_
  refine xi_istore_n (pc' := 54) (lv' := [(1, .int 0), (3, .int 16), (2, .int 17), (0, .ref 115)]) kc_67_53 rfl rfl (xm_lt ml_67 rfl) ?_
  refine xi_iinc (pc' := 57) (x := 16) (v := 17) (lv' := [(3, .int 17), (1, .int 0), (2, .int 17), (0, .ref 115)]) kc_67_54 rfl rfl rfl rfl (xm_lt ml_67 rfl) ?_
  refine xi_goto (pc' := 12) kc_67_57 rfl ?_
  refine xi_iload_n (pc' := 13) (x := 17) kc_67_12 rfl rfl ?_
  refine xi_iload_n (pc' := 14) (x := 17) kc_67_13 rfl rfl ?_
  refine xi_cmt (pc' := 60) kc_67_14 rfl rfl ?_
  refine xi_iinc (pc' := 63) (x := 17) (v := 18) (lv' := [(2, .int 18), (3, .int 17), (1, .int 0), (0, .ref 115)]) kc_67_60 rfl rfl rfl rfl (xm_lt ml_67 rfl) ?_
  refine xi_goto (pc' := 4) kc_67_63 rfl ?_
  refine xi_iload_n (pc' := 5) (x := 18) kc_67_4 rfl rfl ?_
  refine xi_bipush (pc' := 7) (v := 24) kc_67_5 rfl rfl ?_
  refine xi_cmf (pc' := 10) kc_67_7 rfl rfl ?_
  refine xi_iconst (pc' := 11) (v := 0) kc_67_10 rfl rfl ?_
  refine xi_istore_n (pc' := 12) (lv' := [(3, .int 0), (2, .int 18), (1, .int 0), (0, .ref 115)]) kc_67_11 rfl rfl (xm_lt ml_67 rfl) ?_
  refine xi_iload_n (pc' := 13) (x := 0) kc_67_12 rfl rfl ?_
  refine xi_iload_n (pc' := 14) (x := 18) kc_67_13 rfl rfl ?_
  refine xi_cmf (pc' := 17) kc_67_14 rfl rfl ?_
  refine xi_iload_n (pc' := 18) (x := 0) kc_67_17 rfl rfl ?_
  refine xi_aload_n (pc' := 19) (x := 115) kc_67_18 rfl rfl ?_
  refine xi_getfield (pc' := 22) (v := .ref 158) kc_67_19 rfl rfl rfl e115 rfl ?_
  refine xi_iload_n (pc' := 23) (x := 18) kc_67_22 rfl rfl ?_
  refine xi_iaload (pc' := 24) (v := 2) kc_67_23 rfl e158 (by decide) rfl (xi_in (n := 24) (by decide) (by decide)) rfl ?_
  refine xi_iconst (pc' := 25) (v := 1) kc_67_24 rfl rfl ?_
  refine xi_cmt (pc' := 51) kc_67_25 rfl rfl ?_
  refine xi_iconst (pc' := 52) (v := 0) kc_67_51 rfl rfl ?_
  refine xi_iadd (pc' := 53) (v := 0) kc_67_52 rfl rfl ?_
  refine xi_istore_n (pc' := 54) (lv' := [(1, .int 0), (3, .int 0), (2, .int 18), (0, .ref 115)]) kc_67_53 rfl rfl (xm_lt ml_67 rfl) ?_
  refine xi_iinc (pc' := 57) (x := 0) (v := 1) (lv' := [(3, .int 1), (1, .int 0), (2, .int 18), (0, .ref 115)]) kc_67_54 rfl rfl rfl rfl (xm_lt ml_67 rfl) ?_
  refine xi_goto (pc' := 12) kc_67_57 rfl ?_
  refine xi_iload_n (pc' := 13) (x := 1) kc_67_12 rfl rfl ?_
  refine xi_iload_n (pc' := 14) (x := 18) kc_67_13 rfl rfl ?_
  refine xi_cmf (pc' := 17) kc_67_14 rfl rfl ?_
  refine xi_iload_n (pc' := 18) (x := 0) kc_67_17 rfl rfl ?_
  refine xi_aload_n (pc' := 19) (x := 115) kc_67_18 rfl rfl ?_
  refine xi_getfield (pc' := 22) (v := .ref 158) kc_67_19 rfl rfl rfl e115 rfl ?_
  refine xi_iload_n (pc' := 23) (x := 18) kc_67_22 rfl rfl ?_
  refine xi_iaload (pc' := 24) (v := 2) kc_67_23 rfl e158 (by decide) rfl (xi_in (n := 24) (by decide) (by decide)) rfl ?_
  refine xi_iconst (pc' := 25) (v := 1) kc_67_24 rfl rfl ?_
  refine xi_cmt (pc' := 51) kc_67_25 rfl rfl ?_
  refine xi_iconst (pc' := 52) (v := 0) kc_67_51 rfl rfl ?_
  refine xi_iadd (pc' := 53) (v := 0) kc_67_52 rfl rfl ?_
  refine xi_istore_n (pc' := 54) (lv' := [(1, .int 0), (3, .int 1), (2, .int 18), (0, .ref 115)]) kc_67_53 rfl rfl (xm_lt ml_67 rfl) ?_
  refine xi_iinc (pc' := 57) (x := 1) (v := 2) (lv' := [(3, .int 2), (1, .int 0), (2, .int 18), (0, .ref 115)]) kc_67_54 rfl rfl rfl rfl (xm_lt ml_67 rfl) ?_
  refine xi_goto (pc' := 12) kc_67_57 rfl ?_
  refine xi_iload_n (pc' := 13) (x := 2) kc_67_12 rfl rfl ?_
  refine xi_iload_n (pc' := 14) (x := 18) kc_67_13 rfl rfl ?_
  refine xi_cmf (pc' := 17) kc_67_14 rfl rfl ?_
  refine xi_iload_n (pc' := 18) (x := 0) kc_67_17 rfl rfl ?_
  refine xi_aload_n (pc' := 19) (x := 115) kc_67_18 rfl rfl ?_
  refine xi_getfield (pc' := 22) (v := .ref 158) kc_67_19 rfl rfl rfl e115 rfl ?_
  refine xi_iload_n (pc' := 23) (x := 18) kc_67_22 rfl rfl ?_
  refine xi_iaload (pc' := 24) (v := 2) kc_67_23 rfl e158 (by decide) rfl (xi_in (n := 24) (by decide) (by decide)) rfl ?_
  refine xi_iconst (pc' := 25) (v := 1) kc_67_24 rfl rfl ?_
  refine xi_cmt (pc' := 51) kc_67_25 rfl rfl ?_
  refine xi_iconst (pc' := 52) (v := 0) kc_67_51 rfl rfl ?_
  refine xi_iadd (pc' := 53) (v := 0) kc_67_52 rfl rfl ?_
  refine xi_istore_n (pc' := 54) (lv' := [(1, .int 0), (3, .int 2), (2, .int 18), (0, .ref 115)]) kc_67_53 rfl rfl (xm_lt ml_67 rfl) ?_
  refine xi_iinc (pc' := 57) (x := 2) (v := 3) (lv' := [(3, .int 3), (1, .int 0), (2, .int 18), (0, .ref 115)]) kc_67_54 rfl rfl rfl rfl (xm_lt ml_67 rfl) ?_
  refine xi_goto (pc' := 12) kc_67_57 rfl ?_
  refine xi_iload_n (pc' := 13) (x := 3) kc_67_12 rfl rfl ?_
  refine xi_iload_n (pc' := 14) (x := 18) kc_67_13 rfl rfl ?_
  refine xi_cmf (pc' := 17) kc_67_14 rfl rfl ?_
  refine xi_iload_n (pc' := 18) (x := 0) kc_67_17 rfl rfl ?_
  refine xi_aload_n (pc' := 19) (x := 115) kc_67_18 rfl rfl ?_
  refine xi_getfield (pc' := 22) (v := .ref 158) kc_67_19 rfl rfl rfl e115 rfl ?_
  refine xi_iload_n (pc' := 23) (x := 18) kc_67_22 rfl rfl ?_
  refine xi_iaload (pc' := 24) (v := 2) kc_67_23 rfl e158 (by decide) rfl (xi_in (n := 24) (by decide) (by decide)) rfl ?_
  refine xi_iconst (pc' := 25) (v := 1) kc_67_24 rfl rfl ?_
  refine xi_cmt (pc' := 51) kc_67_25 rfl rfl ?_
  refine xi_iconst (pc' := 52) (v := 0) kc_67_51 rfl rfl ?_
  refine xi_iadd (pc' := 53) (v := 0) kc_67_52 rfl rfl ?_
  refine xi_istore_n (pc' := 54) (lv' := [(1, .int 0), (3, .int 3), (2, .int 18), (0, .ref 115)]) kc_67_53 rfl rfl (xm_lt ml_67 rfl) ?_
  refine xi_iinc (pc' := 57) (x := 3) (v := 4) (lv' := [(3, .int 4), (1, .int 0), (2, .int 18), (0, .ref 115)]) kc_67_54 rfl rfl rfl rfl (xm_lt ml_67 rfl) ?_
  refine xi_goto (pc' := 12) kc_67_57 rfl ?_
  refine xi_iload_n (pc' := 13) (x := 4) kc_67_12 rfl rfl ?_
  refine xi_iload_n (pc' := 14) (x := 18) kc_67_13 rfl rfl ?_
  refine xi_cmf (pc' := 17) kc_67_14 rfl rfl ?_
  refine xi_iload_n (pc' := 18) (x := 0) kc_67_17 rfl rfl ?_
  refine xi_aload_n (pc' := 19) (x := 115) kc_67_18 rfl rfl ?_
  refine xi_getfield (pc' := 22) (v := .ref 158) kc_67_19 rfl rfl rfl e115 rfl ?_
  refine xi_iload_n (pc' := 23) (x := 18) kc_67_22 rfl rfl ?_
  refine xi_iaload (pc' := 24) (v := 2) kc_67_23 rfl e158 (by decide) rfl (xi_in (n := 24) (by decide) (by decide)) rfl ?_
  refine xi_iconst (pc' := 25) (v := 1) kc_67_24 rfl rfl ?_
  refine xi_cmt (pc' := 51) kc_67_25 rfl rfl ?_
  refine xi_iconst (pc' := 52) (v := 0) kc_67_51 rfl rfl ?_
  refine xi_iadd (pc' := 53) (v := 0) kc_67_52 rfl rfl ?_
  refine xi_istore_n (pc' := 54) (lv' := [(1, .int 0), (3, .int 4), (2, .int 18), (0, .ref 115)]) kc_67_53 rfl rfl (xm_lt ml_67 rfl) ?_
  refine xi_iinc (pc' := 57) (x := 4) (v := 5) (lv' := [(3, .int 5), (1, .int 0), (2, .int 18), (0, .ref 115)]) kc_67_54 rfl rfl rfl rfl (xm_lt ml_67 rfl) ?_
  refine xi_goto (pc' := 12) kc_67_57 rfl ?_
  refine xi_iload_n (pc' := 13) (x := 5) kc_67_12 rfl rfl ?_
  refine xi_iload_n (pc' := 14) (x := 18) kc_67_13 rfl rfl ?_
  refine xi_cmf (pc' := 17) kc_67_14 rfl rfl ?_
  refine xi_iload_n (pc' := 18) (x := 0) kc_67_17 rfl rfl ?_
  refine xi_aload_n (pc' := 19) (x := 115) kc_67_18 rfl rfl ?_
  refine xi_getfield (pc' := 22) (v := .ref 158) kc_67_19 rfl rfl rfl e115 rfl ?_
  refine xi_iload_n (pc' := 23) (x := 18) kc_67_22 rfl rfl ?_
  refine xi_iaload (pc' := 24) (v := 2) kc_67_23 rfl e158 (by decide) rfl (xi_in (n := 24) (by decide) (by decide)) rfl ?_
  refine xi_iconst (pc' := 25) (v := 1) kc_67_24 rfl rfl ?_
  refine xi_cmt (pc' := 51) kc_67_25 rfl rfl ?_
  refine xi_iconst (pc' := 52) (v := 0) kc_67_51 rfl rfl ?_
  refine xi_iadd (pc' := 53) (v := 0) kc_67_52 rfl rfl ?_
  refine xi_istore_n (pc' := 54) (lv' := [(1, .int 0), (3, .int 5), (2, .int 18), (0, .ref 115)]) kc_67_53 rfl rfl (xm_lt ml_67 rfl) ?_
  refine xi_iinc (pc' := 57) (x := 5) (v := 6) (lv' := [(3, .int 6), (1, .int 0), (2, .int 18), (0, .ref 115)]) kc_67_54 rfl rfl rfl rfl (xm_lt ml_67 rfl) ?_
  refine xi_goto (pc' := 12) kc_67_57 rfl ?_
  refine xi_iload_n (pc' := 13) (x := 6) kc_67_12 rfl rfl ?_
  refine xi_iload_n (pc' := 14) (x := 18) kc_67_13 rfl rfl ?_
  refine xi_cmf (pc' := 17) kc_67_14 rfl rfl ?_
  refine xi_iload_n (pc' := 18) (x := 0) kc_67_17 rfl rfl ?_
  refine xi_aload_n (pc' := 19) (x := 115) kc_67_18 rfl rfl ?_
  refine xi_getfield (pc' := 22) (v := .ref 158) kc_67_19 rfl rfl rfl e115 rfl ?_
  refine xi_iload_n (pc' := 23) (x := 18) kc_67_22 rfl rfl ?_
  refine xi_iaload (pc' := 24) (v := 2) kc_67_23 rfl e158 (by decide) rfl (xi_in (n := 24) (by decide) (by decide)) rfl ?_
  refine xi_iconst (pc' := 25) (v := 1) kc_67_24 rfl rfl ?_
  refine xi_cmt (pc' := 51) kc_67_25 rfl rfl ?_
  refine xi_iconst (pc' := 52) (v := 0) kc_67_51 rfl rfl ?_
  refine xi_iadd (pc' := 53) (v := 0) kc_67_52 rfl rfl ?_
  refine xi_istore_n (pc' := 54) (lv' := [(1, .int 0), (3, .int 6), (2, .int 18), (0, .ref 115)]) kc_67_53 rfl rfl (xm_lt ml_67 rfl) ?_
  refine xi_iinc (pc' := 57) (x := 6) (v := 7) (lv' := [(3, .int 7), (1, .int 0), (2, .int 18), (0, .ref 115)]) kc_67_54 rfl rfl rfl rfl (xm_lt ml_67 rfl) ?_
  refine xi_goto (pc' := 12) kc_67_57 rfl ?_
  refine xi_iload_n (pc' := 13) (x := 7) kc_67_12 rfl rfl ?_
  refine xi_iload_n (pc' := 14) (x := 18) kc_67_13 rfl rfl ?_
  refine xi_cmf (pc' := 17) kc_67_14 rfl rfl ?_
  refine xi_iload_n (pc' := 18) (x := 0) kc_67_17 rfl rfl ?_
  refine xi_aload_n (pc' := 19) (x := 115) kc_67_18 rfl rfl ?_
  refine xi_getfield (pc' := 22) (v := .ref 158) kc_67_19 rfl rfl rfl e115 rfl ?_
  refine xi_iload_n (pc' := 23) (x := 18) kc_67_22 rfl rfl ?_
  refine xi_iaload (pc' := 24) (v := 2) kc_67_23 rfl e158 (by decide) rfl (xi_in (n := 24) (by decide) (by decide)) rfl ?_
  refine xi_iconst (pc' := 25) (v := 1) kc_67_24 rfl rfl ?_
  refine xi_cmt (pc' := 51) kc_67_25 rfl rfl ?_
  refine xi_iconst (pc' := 52) (v := 0) kc_67_51 rfl rfl ?_
  refine xi_iadd (pc' := 53) (v := 0) kc_67_52 rfl rfl ?_
  refine xi_istore_n (pc' := 54) (lv' := [(1, .int 0), (3, .int 7), (2, .int 18), (0, .ref 115)]) kc_67_53 rfl rfl (xm_lt ml_67 rfl) ?_
  refine xi_iinc (pc' := 57) (x := 7) (v := 8) (lv' := [(3, .int 8), (1, .int 0), (2, .int 18), (0, .ref 115)]) kc_67_54 rfl rfl rfl rfl (xm_lt ml_67 rfl) ?_
  refine xi_goto (pc' := 12) kc_67_57 rfl ?_
  refine xi_iload_n (pc' := 13) (x := 8) kc_67_12 rfl rfl ?_
  refine xi_iload_n (pc' := 14) (x := 18) kc_67_13 rfl rfl ?_
  refine xi_cmf (pc' := 17) kc_67_14 rfl rfl ?_
  refine xi_iload_n (pc' := 18) (x := 0) kc_67_17 rfl rfl ?_
  refine xi_aload_n (pc' := 19) (x := 115) kc_67_18 rfl rfl ?_
  refine xi_getfield (pc' := 22) (v := .ref 158) kc_67_19 rfl rfl rfl e115 rfl ?_
  refine xi_iload_n (pc' := 23) (x := 18) kc_67_22 rfl rfl ?_
  refine xi_iaload (pc' := 24) (v := 2) kc_67_23 rfl e158 (by decide) rfl (xi_in (n := 24) (by decide) (by decide)) rfl ?_
  refine xi_iconst (pc' := 25) (v := 1) kc_67_24 rfl rfl ?_
  refine xi_cmt (pc' := 51) kc_67_25 rfl rfl ?_
  refine xi_iconst (pc' := 52) (v := 0) kc_67_51 rfl rfl ?_
  refine xi_iadd (pc' := 53) (v := 0) kc_67_52 rfl rfl ?_
  refine xi_istore_n (pc' := 54) (lv' := [(1, .int 0), (3, .int 8), (2, .int 18), (0, .ref 115)]) kc_67_53 rfl rfl (xm_lt ml_67 rfl) ?_
  refine xi_iinc (pc' := 57) (x := 8) (v := 9) (lv' := [(3, .int 9), (1, .int 0), (2, .int 18), (0, .ref 115)]) kc_67_54 rfl rfl rfl rfl (xm_lt ml_67 rfl) ?_
  refine xi_goto (pc' := 12) kc_67_57 rfl ?_
  refine xi_iload_n (pc' := 13) (x := 9) kc_67_12 rfl rfl ?_
  refine xi_iload_n (pc' := 14) (x := 18) kc_67_13 rfl rfl ?_
  refine xi_cmf (pc' := 17) kc_67_14 rfl rfl ?_
  refine xi_iload_n (pc' := 18) (x := 0) kc_67_17 rfl rfl ?_
  refine xi_aload_n (pc' := 19) (x := 115) kc_67_18 rfl rfl ?_
  refine xi_getfield (pc' := 22) (v := .ref 158) kc_67_19 rfl rfl rfl e115 rfl ?_
  refine xi_iload_n (pc' := 23) (x := 18) kc_67_22 rfl rfl ?_
  refine xi_iaload (pc' := 24) (v := 2) kc_67_23 rfl e158 (by decide) rfl (xi_in (n := 24) (by decide) (by decide)) rfl ?_
  refine xi_iconst (pc' := 25) (v := 1) kc_67_24 rfl rfl ?_
  refine xi_cmt (pc' := 51) kc_67_25 rfl rfl ?_
  refine xi_iconst (pc' := 52) (v := 0) kc_67_51 rfl rfl ?_
  refine xi_iadd (pc' := 53) (v := 0) kc_67_52 rfl rfl ?_
  refine xi_istore_n (pc' := 54) (lv' := [(1, .int 0), (3, .int 9), (2, .int 18), (0, .ref 115)]) kc_67_53 rfl rfl (xm_lt ml_67 rfl) ?_
  refine xi_iinc (pc' := 57) (x := 9) (v := 10) (lv' := [(3, .int 10), (1, .int 0), (2, .int 18), (0, .ref 115)]) kc_67_54 rfl rfl rfl rfl (xm_lt ml_67 rfl) ?_
  refine xi_goto (pc' := 12) kc_67_57 rfl ?_
  refine xi_iload_n (pc' := 13) (x := 10) kc_67_12 rfl rfl ?_
  refine xi_iload_n (pc' := 14) (x := 18) kc_67_13 rfl rfl ?_
  refine xi_cmf (pc' := 17) kc_67_14 rfl rfl ?_
  refine xi_iload_n (pc' := 18) (x := 0) kc_67_17 rfl rfl ?_
  refine xi_aload_n (pc' := 19) (x := 115) kc_67_18 rfl rfl ?_
  refine xi_getfield (pc' := 22) (v := .ref 158) kc_67_19 rfl rfl rfl e115 rfl ?_
  refine xi_iload_n (pc' := 23) (x := 18) kc_67_22 rfl rfl ?_
  refine xi_iaload (pc' := 24) (v := 2) kc_67_23 rfl e158 (by decide) rfl (xi_in (n := 24) (by decide) (by decide)) rfl ?_
  refine xi_iconst (pc' := 25) (v := 1) kc_67_24 rfl rfl ?_
  refine xi_cmt (pc' := 51) kc_67_25 rfl rfl ?_
  refine xi_iconst (pc' := 52) (v := 0) kc_67_51 rfl rfl ?_
  refine xi_iadd (pc' := 53) (v := 0) kc_67_52 rfl rfl ?_
  refine xi_istore_n (pc' := 54) (lv' := [(1, .int 0), (3, .int 10), (2, .int 18), (0, .ref 115)]) kc_67_53 rfl rfl (xm_lt ml_67 rfl) ?_
  refine xi_iinc (pc' := 57) (x := 10) (v := 11) (lv' := [(3, .int 11), (1, .int 0), (2, .int 18), (0, .ref 115)]) kc_67_54 rfl rfl rfl rfl (xm_lt ml_67 rfl) ?_
  refine xi_goto (pc' := 12) kc_67_57 rfl ?_
  refine xi_iload_n (pc' := 13) (x := 11) kc_67_12 rfl rfl ?_
  refine xi_iload_n (pc' := 14) (x := 18) kc_67_13 rfl rfl ?_
  refine xi_cmf (pc' := 17) kc_67_14 rfl rfl ?_
  refine xi_iload_n (pc' := 18) (x := 0) kc_67_17 rfl rfl ?_
  refine xi_aload_n (pc' := 19) (x := 115) kc_67_18 rfl rfl ?_
  refine xi_getfield (pc' := 22) (v := .ref 158) kc_67_19 rfl rfl rfl e115 rfl ?_
  refine xi_iload_n (pc' := 23) (x := 18) kc_67_22 rfl rfl ?_
  refine xi_iaload (pc' := 24) (v := 2) kc_67_23 rfl e158 (by decide) rfl (xi_in (n := 24) (by decide) (by decide)) rfl ?_
  refine xi_iconst (pc' := 25) (v := 1) kc_67_24 rfl rfl ?_
  refine xi_cmt (pc' := 51) kc_67_25 rfl rfl ?_
  refine xi_iconst (pc' := 52) (v := 0) kc_67_51 rfl rfl ?_
  refine xi_iadd (pc' := 53) (v := 0) kc_67_52 rfl rfl ?_
  refine xi_istore_n (pc' := 54) (lv' := [(1, .int 0), (3, .int 11), (2, .int 18), (0, .ref 115)]) kc_67_53 rfl rfl (xm_lt ml_67 rfl) ?_
  refine xi_iinc (pc' := 57) (x := 11) (v := 12) (lv' := [(3, .int 12), (1, .int 0), (2, .int 18), (0, .ref 115)]) kc_67_54 rfl rfl rfl rfl (xm_lt ml_67 rfl) ?_
  refine xi_goto (pc' := 12) kc_67_57 rfl ?_
  refine xi_iload_n (pc' := 13) (x := 12) kc_67_12 rfl rfl ?_
  refine xi_iload_n (pc' := 14) (x := 18) kc_67_13 rfl rfl ?_
  refine xi_cmf (pc' := 17) kc_67_14 rfl rfl ?_
  refine xi_iload_n (pc' := 18) (x := 0) kc_67_17 rfl rfl ?_
  refine xi_aload_n (pc' := 19) (x := 115) kc_67_18 rfl rfl ?_
  refine xi_getfield (pc' := 22) (v := .ref 158) kc_67_19 rfl rfl rfl e115 rfl ?_
  refine xi_iload_n (pc' := 23) (x := 18) kc_67_22 rfl rfl ?_
  refine xi_iaload (pc' := 24) (v := 2) kc_67_23 rfl e158 (by decide) rfl (xi_in (n := 24) (by decide) (by decide)) rfl ?_
  refine xi_iconst (pc' := 25) (v := 1) kc_67_24 rfl rfl ?_
  refine xi_cmt (pc' := 51) kc_67_25 rfl rfl ?_
  refine xi_iconst (pc' := 52) (v := 0) kc_67_51 rfl rfl ?_
  refine xi_iadd (pc' := 53) (v := 0) kc_67_52 rfl rfl ?_
  refine xi_istore_n (pc' := 54) (lv' := [(1, .int 0), (3, .int 12), (2, .int 18), (0, .ref 115)]) kc_67_53 rfl rfl (xm_lt ml_67 rfl) ?_
  refine xi_iinc (pc' := 57) (x := 12) (v := 13) (lv' := [(3, .int 13), (1, .int 0), (2, .int 18), (0, .ref 115)]) kc_67_54 rfl rfl rfl rfl (xm_lt ml_67 rfl) ?_
  refine xi_goto (pc' := 12) kc_67_57 rfl ?_
  refine xi_iload_n (pc' := 13) (x := 13) kc_67_12 rfl rfl ?_
  refine xi_iload_n (pc' := 14) (x := 18) kc_67_13 rfl rfl ?_
  refine xi_cmf (pc' := 17) kc_67_14 rfl rfl ?_
  refine xi_iload_n (pc' := 18) (x := 0) kc_67_17 rfl rfl ?_
  refine xi_aload_n (pc' := 19) (x := 115) kc_67_18 rfl rfl ?_
  refine xi_getfield (pc' := 22) (v := .ref 158) kc_67_19 rfl rfl rfl e115 rfl ?_
  refine xi_iload_n (pc' := 23) (x := 18) kc_67_22 rfl rfl ?_
  refine xi_iaload (pc' := 24) (v := 2) kc_67_23 rfl e158 (by decide) rfl (xi_in (n := 24) (by decide) (by decide)) rfl ?_
  refine xi_iconst (pc' := 25) (v := 1) kc_67_24 rfl rfl ?_
  refine xi_cmt (pc' := 51) kc_67_25 rfl rfl ?_
  refine xi_iconst (pc' := 52) (v := 0) kc_67_51 rfl rfl ?_
  refine xi_iadd (pc' := 53) (v := 0) kc_67_52 rfl rfl ?_
  refine xi_istore_n (pc' := 54) (lv' := [(1, .int 0), (3, .int 13), (2, .int 18), (0, .ref 115)]) kc_67_53 rfl rfl (xm_lt ml_67 rfl) ?_
  refine xi_iinc (pc' := 57) (x := 13) (v := 14) (lv' := [(3, .int 14), (1, .int 0), (2, .int 18), (0, .ref 115)]) kc_67_54 rfl rfl rfl rfl (xm_lt ml_67 rfl) ?_
  refine xi_goto (pc' := 12) kc_67_57 rfl ?_
  refine xi_iload_n (pc' := 13) (x := 14) kc_67_12 rfl rfl ?_
  refine xi_iload_n (pc' := 14) (x := 18) kc_67_13 rfl rfl ?_
  refine xi_cmf (pc' := 17) kc_67_14 rfl rfl ?_
  refine xi_iload_n (pc' := 18) (x := 0) kc_67_17 rfl rfl ?_
  refine xi_aload_n (pc' := 19) (x := 115) kc_67_18 rfl rfl ?_
  refine xi_getfield (pc' := 22) (v := .ref 158) kc_67_19 rfl rfl rfl e115 rfl ?_
  refine xi_iload_n (pc' := 23) (x := 18) kc_67_22 rfl rfl ?_
  refine xi_iaload (pc' := 24) (v := 2) kc_67_23 rfl e158 (by decide) rfl (xi_in (n := 24) (by decide) (by decide)) rfl ?_
  refine xi_iconst (pc' := 25) (v := 1) kc_67_24 rfl rfl ?_
  refine xi_cmt (pc' := 51) kc_67_25 rfl rfl ?_
  refine xi_iconst (pc' := 52) (v := 0) kc_67_51 rfl rfl ?_
  refine xi_iadd (pc' := 53) (v := 0) kc_67_52 rfl rfl ?_
  refine xi_istore_n (pc' := 54) (lv' := [(1, .int 0), (3, .int 14), (2, .int 18), (0, .ref 115)]) kc_67_53 rfl rfl (xm_lt ml_67 rfl) ?_
  refine xi_iinc (pc' := 57) (x := 14) (v := 15) (lv' := [(3, .int 15), (1, .int 0), (2, .int 18), (0, .ref 115)]) kc_67_54 rfl rfl rfl rfl (xm_lt ml_67 rfl) ?_
  refine xi_goto (pc' := 12) kc_67_57 rfl ?_
  refine xi_iload_n (pc' := 13) (x := 15) kc_67_12 rfl rfl ?_
  refine xi_iload_n (pc' := 14) (x := 18) kc_67_13 rfl rfl ?_
  refine xi_cmf (pc' := 17) kc_67_14 rfl rfl ?_
  refine xi_iload_n (pc' := 18) (x := 0) kc_67_17 rfl rfl ?_
  refine xi_aload_n (pc' := 19) (x := 115) kc_67_18 rfl rfl ?_
  refine xi_getfield (pc' := 22) (v := .ref 158) kc_67_19 rfl rfl rfl e115 rfl ?_
  refine xi_iload_n (pc' := 23) (x := 18) kc_67_22 rfl rfl ?_
  refine xi_iaload (pc' := 24) (v := 2) kc_67_23 rfl e158 (by decide) rfl (xi_in (n := 24) (by decide) (by decide)) rfl ?_
  refine xi_iconst (pc' := 25) (v := 1) kc_67_24 rfl rfl ?_
  refine xi_cmt (pc' := 51) kc_67_25 rfl rfl ?_
  refine xi_iconst (pc' := 52) (v := 0) kc_67_51 rfl rfl ?_
  refine xi_iadd (pc' := 53) (v := 0) kc_67_52 rfl rfl ?_
  refine xi_istore_n (pc' := 54) (lv' := [(1, .int 0), (3, .int 15), (2, .int 18), (0, .ref 115)]) kc_67_53 rfl rfl (xm_lt ml_67 rfl) ?_
  refine xi_iinc (pc' := 57) (x := 15) (v := 16) (lv' := [(3, .int 16), (1, .int 0), (2, .int 18), (0, .ref 115)]) kc_67_54 rfl rfl rfl rfl (xm_lt ml_67 rfl) ?_
  refine xi_goto (pc' := 12) kc_67_57 rfl ?_
  refine xi_iload_n (pc' := 13) (x := 16) kc_67_12 rfl rfl ?_
  refine xi_iload_n (pc' := 14) (x := 18) kc_67_13 rfl rfl ?_
  refine xi_cmf (pc' := 17) kc_67_14 rfl rfl ?_
  refine xi_iload_n (pc' := 18) (x := 0) kc_67_17 rfl rfl ?_
  refine xi_aload_n (pc' := 19) (x := 115) kc_67_18 rfl rfl ?_
  refine xi_getfield (pc' := 22) (v := .ref 158) kc_67_19 rfl rfl rfl e115 rfl ?_
  refine xi_iload_n (pc' := 23) (x := 18) kc_67_22 rfl rfl ?_
  refine xi_iaload (pc' := 24) (v := 2) kc_67_23 rfl e158 (by decide) rfl (xi_in (n := 24) (by decide) (by decide)) rfl ?_
  refine xi_iconst (pc' := 25) (v := 1) kc_67_24 rfl rfl ?_
  refine xi_cmt (pc' := 51) kc_67_25 rfl rfl ?_
  refine xi_iconst (pc' := 52) (v := 0) kc_67_51 rfl rfl ?_
  refine xi_iadd (pc' := 53) (v := 0) kc_67_52 rfl rfl ?_
  refine xi_istore_n (pc' := 54) (lv' := [(1, .int 0), (3, .int 16), (2, .int 18), (0, .ref 115)]) kc_67_53 rfl rfl (xm_lt ml_67 rfl) ?_
  refine xi_iinc (pc' := 57) (x := 16) (v := 17) (lv' := [(3, .int 17), (1, .int 0), (2, .int 18), (0, .ref 115)]) kc_67_54 rfl rfl rfl rfl (xm_lt ml_67 rfl) ?_
  refine xi_goto (pc' := 12) kc_67_57 rfl ?_
  refine xi_iload_n (pc' := 13) (x := 17) kc_67_12 rfl rfl ?_
  refine xi_iload_n (pc' := 14) (x := 18) kc_67_13 rfl rfl ?_
  refine xi_cmf (pc' := 17) kc_67_14 rfl rfl ?_
  refine xi_iload_n (pc' := 18) (x := 0) kc_67_17 rfl rfl ?_
  refine xi_aload_n (pc' := 19) (x := 115) kc_67_18 rfl rfl ?_
  refine xi_getfield (pc' := 22) (v := .ref 158) kc_67_19 rfl rfl rfl e115 rfl ?_
  refine xi_iload_n (pc' := 23) (x := 18) kc_67_22 rfl rfl ?_
  refine xi_iaload (pc' := 24) (v := 2) kc_67_23 rfl e158 (by decide) rfl (xi_in (n := 24) (by decide) (by decide)) rfl ?_
  refine xi_iconst (pc' := 25) (v := 1) kc_67_24 rfl rfl ?_
  refine xi_cmt (pc' := 51) kc_67_25 rfl rfl ?_
  refine xi_iconst (pc' := 52) (v := 0) kc_67_51 rfl rfl ?_
  refine xi_iadd (pc' := 53) (v := 0) kc_67_52 rfl rfl ?_
  refine xi_istore_n (pc' := 54) (lv' := [(1, .int 0), (3, .int 17), (2, .int 18), (0, .ref 115)]) kc_67_53 rfl rfl (xm_lt ml_67 rfl) ?_
  refine xi_iinc (pc' := 57) (x := 17) (v := 18) (lv' := [(3, .int 18), (1, .int 0), (2, .int 18), (0, .ref 115)]) kc_67_54 rfl rfl rfl rfl (xm_lt ml_67 rfl) ?_
  refine xi_goto (pc' := 12) kc_67_57 rfl ?_
  refine xi_iload_n (pc' := 13) (x := 18) kc_67_12 rfl rfl ?_
  refine xi_iload_n (pc' := 14) (x := 18) kc_67_13 rfl rfl ?_
  refine xi_cmt (pc' := 60) kc_67_14 rfl rfl ?_
  refine xi_iinc (pc' := 63) (x := 18) (v := 19) (lv' := [(2, .int 19), (3, .int 18), (1, .int 0), (0, .ref 115)]) kc_67_60 rfl rfl rfl rfl (xm_lt ml_67 rfl) ?_
  refine xi_goto (pc' := 4) kc_67_63 rfl ?_
  refine xi_iload_n (pc' := 5) (x := 19) kc_67_4 rfl rfl ?_
  refine xi_bipush (pc' := 7) (v := 24) kc_67_5 rfl rfl ?_
  refine xi_cmf (pc' := 10) kc_67_7 rfl rfl ?_
  refine xi_iconst (pc' := 11) (v := 0) kc_67_10 rfl rfl ?_
  refine xi_istore_n (pc' := 12) (lv' := [(3, .int 0), (2, .int 19), (1, .int 0), (0, .ref 115)]) kc_67_11 rfl rfl (xm_lt ml_67 rfl) ?_
  refine xi_iload_n (pc' := 13) (x := 0) kc_67_12 rfl rfl ?_
  refine xi_iload_n (pc' := 14) (x := 19) kc_67_13 rfl rfl ?_
  refine xi_cmf (pc' := 17) kc_67_14 rfl rfl ?_
  refine xi_iload_n (pc' := 18) (x := 0) kc_67_17 rfl rfl ?_
  refine xi_aload_n (pc' := 19) (x := 115) kc_67_18 rfl rfl ?_
  refine xi_getfield (pc' := 22) (v := .ref 158) kc_67_19 rfl rfl rfl e115 rfl ?_
  refine xi_iload_n (pc' := 23) (x := 19) kc_67_22 rfl rfl ?_
  refine xi_iaload (pc' := 24) (v := 2) kc_67_23 rfl e158 (by decide) rfl (xi_in (n := 24) (by decide) (by decide)) rfl ?_
  refine xi_iconst (pc' := 25) (v := 1) kc_67_24 rfl rfl ?_
  refine xi_cmt (pc' := 51) kc_67_25 rfl rfl ?_
  refine xi_iconst (pc' := 52) (v := 0) kc_67_51 rfl rfl ?_
  refine xi_iadd (pc' := 53) (v := 0) kc_67_52 rfl rfl ?_
  refine xi_istore_n (pc' := 54) (lv' := [(1, .int 0), (3, .int 0), (2, .int 19), (0, .ref 115)]) kc_67_53 rfl rfl (xm_lt ml_67 rfl) ?_
  refine xi_iinc (pc' := 57) (x := 0) (v := 1) (lv' := [(3, .int 1), (1, .int 0), (2, .int 19), (0, .ref 115)]) kc_67_54 rfl rfl rfl rfl (xm_lt ml_67 rfl) ?_
  refine xi_goto (pc' := 12) kc_67_57 rfl ?_
  refine xi_iload_n (pc' := 13) (x := 1) kc_67_12 rfl rfl ?_
  refine xi_iload_n (pc' := 14) (x := 19) kc_67_13 rfl rfl ?_
  refine xi_cmf (pc' := 17) kc_67_14 rfl rfl ?_
  refine xi_iload_n (pc' := 18) (x := 0) kc_67_17 rfl rfl ?_
  refine xi_aload_n (pc' := 19) (x := 115) kc_67_18 rfl rfl ?_
  refine xi_getfield (pc' := 22) (v := .ref 158) kc_67_19 rfl rfl rfl e115 rfl ?_
  refine xi_iload_n (pc' := 23) (x := 19) kc_67_22 rfl rfl ?_
  refine xi_iaload (pc' := 24) (v := 2) kc_67_23 rfl e158 (by decide) rfl (xi_in (n := 24) (by decide) (by decide)) rfl ?_
  refine xi_iconst (pc' := 25) (v := 1) kc_67_24 rfl rfl ?_
  refine xi_cmt (pc' := 51) kc_67_25 rfl rfl ?_
  refine xi_iconst (pc' := 52) (v := 0) kc_67_51 rfl rfl ?_
  refine xi_iadd (pc' := 53) (v := 0) kc_67_52 rfl rfl ?_
  refine xi_istore_n (pc' := 54) (lv' := [(1, .int 0), (3, .int 1), (2, .int 19), (0, .ref 115)]) kc_67_53 rfl rfl (xm_lt ml_67 rfl) ?_
  refine xi_iinc (pc' := 57) (x := 1) (v := 2) (lv' := [(3, .int 2), (1, .int 0), (2, .int 19), (0, .ref 115)]) kc_67_54 rfl rfl rfl rfl (xm_lt ml_67 rfl) ?_
  refine xi_goto (pc' := 12) kc_67_57 rfl ?_
  refine xi_iload_n (pc' := 13) (x := 2) kc_67_12 rfl rfl ?_
  refine xi_iload_n (pc' := 14) (x := 19) kc_67_13 rfl rfl ?_
  refine xi_cmf (pc' := 17) kc_67_14 rfl rfl ?_
  refine xi_iload_n (pc' := 18) (x := 0) kc_67_17 rfl rfl ?_
  refine xi_aload_n (pc' := 19) (x := 115) kc_67_18 rfl rfl ?_
  refine xi_getfield (pc' := 22) (v := .ref 158) kc_67_19 rfl rfl rfl e115 rfl ?_
  refine xi_iload_n (pc' := 23) (x := 19) kc_67_22 rfl rfl ?_
  refine xi_iaload (pc' := 24) (v := 2) kc_67_23 rfl e158 (by decide) rfl (xi_in (n := 24) (by decide) (by decide)) rfl ?_
  refine xi_iconst (pc' := 25) (v := 1) kc_67_24 rfl rfl ?_
  refine xi_cmt (pc' := 51) kc_67_25 rfl rfl ?_
  refine xi_iconst (pc' := 52) (v := 0) kc_67_51 rfl rfl ?_
  refine xi_iadd (pc' := 53) (v := 0) kc_67_52 rfl rfl ?_
  refine xi_istore_n (pc' := 54) (lv' := [(1, .int 0), (3, .int 2), (2, .int 19), (0, .ref 115)]) kc_67_53 rfl rfl (xm_lt ml_67 rfl) ?_
  refine xi_iinc (pc' := 57) (x := 2) (v := 3) (lv' := [(3, .int 3), (1, .int 0), (2, .int 19), (0, .ref 115)]) kc_67_54 rfl rfl rfl rfl (xm_lt ml_67 rfl) ?_
  refine xi_goto (pc' := 12) kc_67_57 rfl ?_
  refine xi_iload_n (pc' := 13) (x := 3) kc_67_12 rfl rfl ?_
  refine xi_iload_n (pc' := 14) (x := 19) kc_67_13 rfl rfl ?_
  refine xi_cmf (pc' := 17) kc_67_14 rfl rfl ?_
  refine xi_iload_n (pc' := 18) (x := 0) kc_67_17 rfl rfl ?_
  refine xi_aload_n (pc' := 19) (x := 115) kc_67_18 rfl rfl ?_
  refine xi_getfield (pc' := 22) (v := .ref 158) kc_67_19 rfl rfl rfl e115 rfl ?_
  refine xi_iload_n (pc' := 23) (x := 19) kc_67_22 rfl rfl ?_
  refine xi_iaload (pc' := 24) (v := 2) kc_67_23 rfl e158 (by decide) rfl (xi_in (n := 24) (by decide) (by decide)) rfl ?_
  refine xi_iconst (pc' := 25) (v := 1) kc_67_24 rfl rfl ?_
  refine xi_cmt (pc' := 51) kc_67_25 rfl rfl ?_
  refine xi_iconst (pc' := 52) (v := 0) kc_67_51 rfl rfl ?_
  refine xi_iadd (pc' := 53) (v := 0) kc_67_52 rfl rfl ?_
  refine xi_istore_n (pc' := 54) (lv' := [(1, .int 0), (3, .int 3), (2, .int 19), (0, .ref 115)]) kc_67_53 rfl rfl (xm_lt ml_67 rfl) ?_
  refine xi_iinc (pc' := 57) (x := 3) (v := 4) (lv' := [(3, .int 4), (1, .int 0), (2, .int 19), (0, .ref 115)]) kc_67_54 rfl rfl rfl rfl (xm_lt ml_67 rfl) ?_
  refine xi_goto (pc' := 12) kc_67_57 rfl ?_
  refine xi_iload_n (pc' := 13) (x := 4) kc_67_12 rfl rfl ?_
  refine xi_iload_n (pc' := 14) (x := 19) kc_67_13 rfl rfl ?_
  refine xi_cmf (pc' := 17) kc_67_14 rfl rfl ?_
  refine xi_iload_n (pc' := 18) (x := 0) kc_67_17 rfl rfl ?_
  refine xi_aload_n (pc' := 19) (x := 115) kc_67_18 rfl rfl ?_
  refine xi_getfield (pc' := 22) (v := .ref 158) kc_67_19 rfl rfl rfl e115 rfl ?_
  refine xi_iload_n (pc' := 23) (x := 19) kc_67_22 rfl rfl ?_
  refine xi_iaload (pc' := 24) (v := 2) kc_67_23 rfl e158 (by decide) rfl (xi_in (n := 24) (by decide) (by decide)) rfl ?_
  refine xi_iconst (pc' := 25) (v := 1) kc_67_24 rfl rfl ?_
  refine xi_cmt (pc' := 51) kc_67_25 rfl rfl ?_
  refine xi_iconst (pc' := 52) (v := 0) kc_67_51 rfl rfl ?_
  refine xi_iadd (pc' := 53) (v := 0) kc_67_52 rfl rfl ?_
  refine xi_istore_n (pc' := 54) (lv' := [(1, .int 0), (3, .int 4), (2, .int 19), (0, .ref 115)]) kc_67_53 rfl rfl (xm_lt ml_67 rfl) ?_
  refine xi_iinc (pc' := 57) (x := 4) (v := 5) (lv' := [(3, .int 5), (1, .int 0), (2, .int 19), (0, .ref 115)]) kc_67_54 rfl rfl rfl rfl (xm_lt ml_67 rfl) ?_
  refine xi_goto (pc' := 12) kc_67_57 rfl ?_
  refine xi_iload_n (pc' := 13) (x := 5) kc_67_12 rfl rfl ?_
  refine xi_iload_n (pc' := 14) (x := 19) kc_67_13 rfl rfl ?_
  refine xi_cmf (pc' := 17) kc_67_14 rfl rfl ?_
  refine xi_iload_n (pc' := 18) (x := 0) kc_67_17 rfl rfl ?_
  refine xi_aload_n (pc' := 19) (x := 115) kc_67_18 rfl rfl ?_
  refine xi_getfield (pc' := 22) (v := .ref 158) kc_67_19 rfl rfl rfl e115 rfl ?_
  refine xi_iload_n (pc' := 23) (x := 19) kc_67_22 rfl rfl ?_
  refine xi_iaload (pc' := 24) (v := 2) kc_67_23 rfl e158 (by decide) rfl (xi_in (n := 24) (by decide) (by decide)) rfl ?_
  refine xi_iconst (pc' := 25) (v := 1) kc_67_24 rfl rfl ?_
  refine xi_cmt (pc' := 51) kc_67_25 rfl rfl ?_
  refine xi_iconst (pc' := 52) (v := 0) kc_67_51 rfl rfl ?_
  refine xi_iadd (pc' := 53) (v := 0) kc_67_52 rfl rfl ?_
  refine xi_istore_n (pc' := 54) (lv' := [(1, .int 0), (3, .int 5), (2, .int 19), (0, .ref 115)]) kc_67_53 rfl rfl (xm_lt ml_67 rfl) ?_
  refine xi_iinc (pc' := 57) (x := 5) (v := 6) (lv' := [(3, .int 6), (1, .int 0), (2, .int 19), (0, .ref 115)]) kc_67_54 rfl rfl rfl rfl (xm_lt ml_67 rfl) ?_
  refine xi_goto (pc' := 12) kc_67_57 rfl ?_
  refine xi_iload_n (pc' := 13) (x := 6) kc_67_12 rfl rfl ?_
  refine xi_iload_n (pc' := 14) (x := 19) kc_67_13 rfl rfl ?_
  refine xi_cmf (pc' := 17) kc_67_14 rfl rfl ?_
  refine xi_iload_n (pc' := 18) (x := 0) kc_67_17 rfl rfl ?_
  refine xi_aload_n (pc' := 19) (x := 115) kc_67_18 rfl rfl ?_
  refine xi_getfield (pc' := 22) (v := .ref 158) kc_67_19 rfl rfl rfl e115 rfl ?_
  refine xi_iload_n (pc' := 23) (x := 19) kc_67_22 rfl rfl ?_
  refine xi_iaload (pc' := 24) (v := 2) kc_67_23 rfl e158 (by decide) rfl (xi_in (n := 24) (by decide) (by decide)) rfl ?_
  refine xi_iconst (pc' := 25) (v := 1) kc_67_24 rfl rfl ?_
  refine xi_cmt (pc' := 51) kc_67_25 rfl rfl ?_
  refine xi_iconst (pc' := 52) (v := 0) kc_67_51 rfl rfl ?_
  refine xi_iadd (pc' := 53) (v := 0) kc_67_52 rfl rfl ?_
  refine xi_istore_n (pc' := 54) (lv' := [(1, .int 0), (3, .int 6), (2, .int 19), (0, .ref 115)]) kc_67_53 rfl rfl (xm_lt ml_67 rfl) ?_
  refine xi_iinc (pc' := 57) (x := 6) (v := 7) (lv' := [(3, .int 7), (1, .int 0), (2, .int 19), (0, .ref 115)]) kc_67_54 rfl rfl rfl rfl (xm_lt ml_67 rfl) ?_
  refine xi_goto (pc' := 12) kc_67_57 rfl ?_
  refine xi_iload_n (pc' := 13) (x := 7) kc_67_12 rfl rfl ?_
  refine xi_iload_n (pc' := 14) (x := 19) kc_67_13 rfl rfl ?_
  refine xi_cmf (pc' := 17) kc_67_14 rfl rfl ?_
  refine xi_iload_n (pc' := 18) (x := 0) kc_67_17 rfl rfl ?_
  refine xi_aload_n (pc' := 19) (x := 115) kc_67_18 rfl rfl ?_
  refine xi_getfield (pc' := 22) (v := .ref 158) kc_67_19 rfl rfl rfl e115 rfl ?_
  refine xi_iload_n (pc' := 23) (x := 19) kc_67_22 rfl rfl ?_
  refine xi_iaload (pc' := 24) (v := 2) kc_67_23 rfl e158 (by decide) rfl (xi_in (n := 24) (by decide) (by decide)) rfl ?_
  refine xi_iconst (pc' := 25) (v := 1) kc_67_24 rfl rfl ?_
  refine xi_cmt (pc' := 51) kc_67_25 rfl rfl ?_
  refine xi_iconst (pc' := 52) (v := 0) kc_67_51 rfl rfl ?_
  refine xi_iadd (pc' := 53) (v := 0) kc_67_52 rfl rfl ?_
  refine xi_istore_n (pc' := 54) (lv' := [(1, .int 0), (3, .int 7), (2, .int 19), (0, .ref 115)]) kc_67_53 rfl rfl (xm_lt ml_67 rfl) ?_
  refine xi_iinc (pc' := 57) (x := 7) (v := 8) (lv' := [(3, .int 8), (1, .int 0), (2, .int 19), (0, .ref 115)]) kc_67_54 rfl rfl rfl rfl (xm_lt ml_67 rfl) ?_
  refine xi_goto (pc' := 12) kc_67_57 rfl ?_
  refine xi_iload_n (pc' := 13) (x := 8) kc_67_12 rfl rfl ?_
  refine xi_iload_n (pc' := 14) (x := 19) kc_67_13 rfl rfl ?_
  refine xi_cmf (pc' := 17) kc_67_14 rfl rfl ?_
  refine xi_iload_n (pc' := 18) (x := 0) kc_67_17 rfl rfl ?_
  refine xi_aload_n (pc' := 19) (x := 115) kc_67_18 rfl rfl ?_
  refine xi_getfield (pc' := 22) (v := .ref 158) kc_67_19 rfl rfl rfl e115 rfl ?_
  refine xi_iload_n (pc' := 23) (x := 19) kc_67_22 rfl rfl ?_
  refine xi_iaload (pc' := 24) (v := 2) kc_67_23 rfl e158 (by decide) rfl (xi_in (n := 24) (by decide) (by decide)) rfl ?_
  refine xi_iconst (pc' := 25) (v := 1) kc_67_24 rfl rfl ?_
  refine xi_cmt (pc' := 51) kc_67_25 rfl rfl ?_
  refine xi_iconst (pc' := 52) (v := 0) kc_67_51 rfl rfl ?_
  refine xi_iadd (pc' := 53) (v := 0) kc_67_52 rfl rfl ?_
  refine xi_istore_n (pc' := 54) (lv' := [(1, .int 0), (3, .int 8), (2, .int 19), (0, .ref 115)]) kc_67_53 rfl rfl (xm_lt ml_67 rfl) ?_
  refine xi_iinc (pc' := 57) (x := 8) (v := 9) (lv' := [(3, .int 9), (1, .int 0), (2, .int 19), (0, .ref 115)]) kc_67_54 rfl rfl rfl rfl (xm_lt ml_67 rfl) ?_
  refine xi_goto (pc' := 12) kc_67_57 rfl ?_
  refine xi_iload_n (pc' := 13) (x := 9) kc_67_12 rfl rfl ?_
  refine xi_iload_n (pc' := 14) (x := 19) kc_67_13 rfl rfl ?_
  refine xi_cmf (pc' := 17) kc_67_14 rfl rfl ?_
  refine xi_iload_n (pc' := 18) (x := 0) kc_67_17 rfl rfl ?_
  refine xi_aload_n (pc' := 19) (x := 115) kc_67_18 rfl rfl ?_
  refine xi_getfield (pc' := 22) (v := .ref 158) kc_67_19 rfl rfl rfl e115 rfl ?_
  refine xi_iload_n (pc' := 23) (x := 19) kc_67_22 rfl rfl ?_
  refine xi_iaload (pc' := 24) (v := 2) kc_67_23 rfl e158 (by decide) rfl (xi_in (n := 24) (by decide) (by decide)) rfl ?_
  refine xi_iconst (pc' := 25) (v := 1) kc_67_24 rfl rfl ?_
  refine xi_cmt (pc' := 51) kc_67_25 rfl rfl ?_
  refine xi_iconst (pc' := 52) (v := 0) kc_67_51 rfl rfl ?_
  refine xi_iadd (pc' := 53) (v := 0) kc_67_52 rfl rfl ?_
  refine xi_istore_n (pc' := 54) (lv' := [(1, .int 0), (3, .int 9), (2, .int 19), (0, .ref 115)]) kc_67_53 rfl rfl (xm_lt ml_67 rfl) ?_
  refine xi_iinc (pc' := 57) (x := 9) (v := 10) (lv' := [(3, .int 10), (1, .int 0), (2, .int 19), (0, .ref 115)]) kc_67_54 rfl rfl rfl rfl (xm_lt ml_67 rfl) ?_
  refine xi_goto (pc' := 12) kc_67_57 rfl ?_
  refine xi_iload_n (pc' := 13) (x := 10) kc_67_12 rfl rfl ?_
  refine xi_iload_n (pc' := 14) (x := 19) kc_67_13 rfl rfl ?_
  refine xi_cmf (pc' := 17) kc_67_14 rfl rfl ?_
  refine xi_iload_n (pc' := 18) (x := 0) kc_67_17 rfl rfl ?_
  refine xi_aload_n (pc' := 19) (x := 115) kc_67_18 rfl rfl ?_
  refine xi_getfield (pc' := 22) (v := .ref 158) kc_67_19 rfl rfl rfl e115 rfl ?_
  refine xi_iload_n (pc' := 23) (x := 19) kc_67_22 rfl rfl ?_
  refine xi_iaload (pc' := 24) (v := 2) kc_67_23 rfl e158 (by decide) rfl (xi_in (n := 24) (by decide) (by decide)) rfl ?_
  refine xi_iconst (pc' := 25) (v := 1) kc_67_24 rfl rfl ?_
  refine xi_cmt (pc' := 51) kc_67_25 rfl rfl ?_
  refine xi_iconst (pc' := 52) (v := 0) kc_67_51 rfl rfl ?_
  refine xi_iadd (pc' := 53) (v := 0) kc_67_52 rfl rfl ?_
  refine xi_istore_n (pc' := 54) (lv' := [(1, .int 0), (3, .int 10), (2, .int 19), (0, .ref 115)]) kc_67_53 rfl rfl (xm_lt ml_67 rfl) ?_
  refine xi_iinc (pc' := 57) (x := 10) (v := 11) (lv' := [(3, .int 11), (1, .int 0), (2, .int 19), (0, .ref 115)]) kc_67_54 rfl rfl rfl rfl (xm_lt ml_67 rfl) ?_
  refine xi_goto (pc' := 12) kc_67_57 rfl ?_
  refine xi_iload_n (pc' := 13) (x := 11) kc_67_12 rfl rfl ?_
  refine xi_iload_n (pc' := 14) (x := 19) kc_67_13 rfl rfl ?_
  refine xi_cmf (pc' := 17) kc_67_14 rfl rfl ?_
  refine xi_iload_n (pc' := 18) (x := 0) kc_67_17 rfl rfl ?_
  refine xi_aload_n (pc' := 19) (x := 115) kc_67_18 rfl rfl ?_
  refine xi_getfield (pc' := 22) (v := .ref 158) kc_67_19 rfl rfl rfl e115 rfl ?_
  refine xi_iload_n (pc' := 23) (x := 19) kc_67_22 rfl rfl ?_
  refine xi_iaload (pc' := 24) (v := 2) kc_67_23 rfl e158 (by decide) rfl (xi_in (n := 24) (by decide) (by decide)) rfl ?_
  refine xi_iconst (pc' := 25) (v := 1) kc_67_24 rfl rfl ?_
  refine xi_cmt (pc' := 51) kc_67_25 rfl rfl ?_
  refine xi_iconst (pc' := 52) (v := 0) kc_67_51 rfl rfl ?_
  refine xi_iadd (pc' := 53) (v := 0) kc_67_52 rfl rfl ?_
  refine xi_istore_n (pc' := 54) (lv' := [(1, .int 0), (3, .int 11), (2, .int 19), (0, .ref 115)]) kc_67_53 rfl rfl (xm_lt ml_67 rfl) ?_
  refine xi_iinc (pc' := 57) (x := 11) (v := 12) (lv' := [(3, .int 12), (1, .int 0), (2, .int 19), (0, .ref 115)]) kc_67_54 rfl rfl rfl rfl (xm_lt ml_67 rfl) ?_
  refine xi_goto (pc' := 12) kc_67_57 rfl ?_
  refine xi_iload_n (pc' := 13) (x := 12) kc_67_12 rfl rfl ?_
  refine xi_iload_n (pc' := 14) (x := 19) kc_67_13 rfl rfl ?_
  refine xi_cmf (pc' := 17) kc_67_14 rfl rfl ?_
  refine xi_iload_n (pc' := 18) (x := 0) kc_67_17 rfl rfl ?_
  refine xi_aload_n (pc' := 19) (x := 115) kc_67_18 rfl rfl ?_
  refine xi_getfield (pc' := 22) (v := .ref 158) kc_67_19 rfl rfl rfl e115 rfl ?_
  refine xi_iload_n (pc' := 23) (x := 19) kc_67_22 rfl rfl ?_
  refine xi_iaload (pc' := 24) (v := 2) kc_67_23 rfl e158 (by decide) rfl (xi_in (n := 24) (by decide) (by decide)) rfl ?_
  refine xi_iconst (pc' := 25) (v := 1) kc_67_24 rfl rfl ?_
  refine xi_cmt (pc' := 51) kc_67_25 rfl rfl ?_
  refine xi_iconst (pc' := 52) (v := 0) kc_67_51 rfl rfl ?_
  refine xi_iadd (pc' := 53) (v := 0) kc_67_52 rfl rfl ?_
  refine xi_istore_n (pc' := 54) (lv' := [(1, .int 0), (3, .int 12), (2, .int 19), (0, .ref 115)]) kc_67_53 rfl rfl (xm_lt ml_67 rfl) ?_
  refine xi_iinc (pc' := 57) (x := 12) (v := 13) (lv' := [(3, .int 13), (1, .int 0), (2, .int 19), (0, .ref 115)]) kc_67_54 rfl rfl rfl rfl (xm_lt ml_67 rfl) ?_
  refine xi_goto (pc' := 12) kc_67_57 rfl ?_
  refine xi_iload_n (pc' := 13) (x := 13) kc_67_12 rfl rfl ?_
  refine xi_iload_n (pc' := 14) (x := 19) kc_67_13 rfl rfl ?_
  refine xi_cmf (pc' := 17) kc_67_14 rfl rfl ?_
  refine xi_iload_n (pc' := 18) (x := 0) kc_67_17 rfl rfl ?_
  refine xi_aload_n (pc' := 19) (x := 115) kc_67_18 rfl rfl ?_
  refine xi_getfield (pc' := 22) (v := .ref 158) kc_67_19 rfl rfl rfl e115 rfl ?_
  refine xi_iload_n (pc' := 23) (x := 19) kc_67_22 rfl rfl ?_
  refine xi_iaload (pc' := 24) (v := 2) kc_67_23 rfl e158 (by decide) rfl (xi_in (n := 24) (by decide) (by decide)) rfl ?_
  refine xi_iconst (pc' := 25) (v := 1) kc_67_24 rfl rfl ?_
  refine xi_cmt (pc' := 51) kc_67_25 rfl rfl ?_
  refine xi_iconst (pc' := 52) (v := 0) kc_67_51 rfl rfl ?_
  refine xi_iadd (pc' := 53) (v := 0) kc_67_52 rfl rfl ?_
  refine xi_istore_n (pc' := 54) (lv' := [(1, .int 0), (3, .int 13), (2, .int 19), (0, .ref 115)]) kc_67_53 rfl rfl (xm_lt ml_67 rfl) ?_
  refine xi_iinc (pc' := 57) (x := 13) (v := 14) (lv' := [(3, .int 14), (1, .int 0), (2, .int 19), (0, .ref 115)]) kc_67_54 rfl rfl rfl rfl (xm_lt ml_67 rfl) ?_
  refine xi_goto (pc' := 12) kc_67_57 rfl ?_
  refine xi_iload_n (pc' := 13) (x := 14) kc_67_12 rfl rfl ?_
  refine xi_iload_n (pc' := 14) (x := 19) kc_67_13 rfl rfl ?_
  refine xi_cmf (pc' := 17) kc_67_14 rfl rfl ?_
  refine xi_iload_n (pc' := 18) (x := 0) kc_67_17 rfl rfl ?_
  refine xi_aload_n (pc' := 19) (x := 115) kc_67_18 rfl rfl ?_
  refine xi_getfield (pc' := 22) (v := .ref 158) kc_67_19 rfl rfl rfl e115 rfl ?_
  refine xi_iload_n (pc' := 23) (x := 19) kc_67_22 rfl rfl ?_
  refine xi_iaload (pc' := 24) (v := 2) kc_67_23 rfl e158 (by decide) rfl (xi_in (n := 24) (by decide) (by decide)) rfl ?_
  refine xi_iconst (pc' := 25) (v := 1) kc_67_24 rfl rfl ?_
  refine xi_cmt (pc' := 51) kc_67_25 rfl rfl ?_
  refine xi_iconst (pc' := 52) (v := 0) kc_67_51 rfl rfl ?_
  refine xi_iadd (pc' := 53) (v := 0) kc_67_52 rfl rfl ?_
  refine xi_istore_n (pc' := 54) (lv' := [(1, .int 0), (3, .int 14), (2, .int 19), (0, .ref 115)]) kc_67_53 rfl rfl (xm_lt ml_67 rfl) ?_
  refine xi_iinc (pc' := 57) (x := 14) (v := 15) (lv' := [(3, .int 15), (1, .int 0), (2, .int 19), (0, .ref 115)]) kc_67_54 rfl rfl rfl rfl (xm_lt ml_67 rfl) ?_
  refine xi_goto (pc' := 12) kc_67_57 rfl ?_
  refine xi_iload_n (pc' := 13) (x := 15) kc_67_12 rfl rfl ?_
  refine xi_iload_n (pc' := 14) (x := 19) kc_67_13 rfl rfl ?_
  refine xi_cmf (pc' := 17) kc_67_14 rfl rfl ?_
  refine xi_iload_n (pc' := 18) (x := 0) kc_67_17 rfl rfl ?_
  refine xi_aload_n (pc' := 19) (x := 115) kc_67_18 rfl rfl ?_
  refine xi_getfield (pc' := 22) (v := .ref 158) kc_67_19 rfl rfl rfl e115 rfl ?_
  refine xi_iload_n (pc' := 23) (x := 19) kc_67_22 rfl rfl ?_
  refine xi_iaload (pc' := 24) (v := 2) kc_67_23 rfl e158 (by decide) rfl (xi_in (n := 24) (by decide) (by decide)) rfl ?_
  refine xi_iconst (pc' := 25) (v := 1) kc_67_24 rfl rfl ?_
  refine xi_cmt (pc' := 51) kc_67_25 rfl rfl ?_
  refine xi_iconst (pc' := 52) (v := 0) kc_67_51 rfl rfl ?_
  refine xi_iadd (pc' := 53) (v := 0) kc_67_52 rfl rfl ?_
  refine xi_istore_n (pc' := 54) (lv' := [(1, .int 0), (3, .int 15), (2, .int 19), (0, .ref 115)]) kc_67_53 rfl rfl (xm_lt ml_67 rfl) ?_
  refine xi_iinc (pc' := 57) (x := 15) (v := 16) (lv' := [(3, .int 16), (1, .int 0), (2, .int 19), (0, .ref 115)]) kc_67_54 rfl rfl rfl rfl (xm_lt ml_67 rfl) ?_
  refine xi_goto (pc' := 12) kc_67_57 rfl ?_
  refine xi_iload_n (pc' := 13) (x := 16) kc_67_12 rfl rfl ?_
  refine xi_iload_n (pc' := 14) (x := 19) kc_67_13 rfl rfl ?_
  refine xi_cmf (pc' := 17) kc_67_14 rfl rfl ?_
  refine xi_iload_n (pc' := 18) (x := 0) kc_67_17 rfl rfl ?_
  refine xi_aload_n (pc' := 19) (x := 115) kc_67_18 rfl rfl ?_
  refine xi_getfield (pc' := 22) (v := .ref 158) kc_67_19 rfl rfl rfl e115 rfl ?_
  refine xi_iload_n (pc' := 23) (x := 19) kc_67_22 rfl rfl ?_
  refine xi_iaload (pc' := 24) (v := 2) kc_67_23 rfl e158 (by decide) rfl (xi_in (n := 24) (by decide) (by decide)) rfl ?_
  refine xi_iconst (pc' := 25) (v := 1) kc_67_24 rfl rfl ?_
  refine xi_cmt (pc' := 51) kc_67_25 rfl rfl ?_
  refine xi_iconst (pc' := 52) (v := 0) kc_67_51 rfl rfl ?_
  refine xi_iadd (pc' := 53) (v := 0) kc_67_52 rfl rfl ?_
  refine xi_istore_n (pc' := 54) (lv' := [(1, .int 0), (3, .int 16), (2, .int 19), (0, .ref 115)]) kc_67_53 rfl rfl (xm_lt ml_67 rfl) ?_
  refine xi_iinc (pc' := 57) (x := 16) (v := 17) (lv' := [(3, .int 17), (1, .int 0), (2, .int 19), (0, .ref 115)]) kc_67_54 rfl rfl rfl rfl (xm_lt ml_67 rfl) ?_
  refine xi_goto (pc' := 12) kc_67_57 rfl ?_
  refine xi_iload_n (pc' := 13) (x := 17) kc_67_12 rfl rfl ?_
  refine xi_iload_n (pc' := 14) (x := 19) kc_67_13 rfl rfl ?_
  refine xi_cmf (pc' := 17) kc_67_14 rfl rfl ?_
  refine xi_iload_n (pc' := 18) (x := 0) kc_67_17 rfl rfl ?_
  refine xi_aload_n (pc' := 19) (x := 115) kc_67_18 rfl rfl ?_
  refine xi_getfield (pc' := 22) (v := .ref 158) kc_67_19 rfl rfl rfl e115 rfl ?_
  refine xi_iload_n (pc' := 23) (x := 19) kc_67_22 rfl rfl ?_
  refine xi_iaload (pc' := 24) (v := 2) kc_67_23 rfl e158 (by decide) rfl (xi_in (n := 24) (by decide) (by decide)) rfl ?_
  refine xi_iconst (pc' := 25) (v := 1) kc_67_24 rfl rfl ?_
  refine xi_cmt (pc' := 51) kc_67_25 rfl rfl ?_
  refine xi_iconst (pc' := 52) (v := 0) kc_67_51 rfl rfl ?_
  refine xi_iadd (pc' := 53) (v := 0) kc_67_52 rfl rfl ?_
  refine xi_istore_n (pc' := 54) (lv' := [(1, .int 0), (3, .int 17), (2, .int 19), (0, .ref 115)]) kc_67_53 rfl rfl (xm_lt ml_67 rfl) ?_
  refine xi_iinc (pc' := 57) (x := 17) (v := 18) (lv' := [(3, .int 18), (1, .int 0), (2, .int 19), (0, .ref 115)]) kc_67_54 rfl rfl rfl rfl (xm_lt ml_67 rfl) ?_
  refine xi_goto (pc' := 12) kc_67_57 rfl ?_
  refine xi_iload_n (pc' := 13) (x := 18) kc_67_12 rfl rfl ?_
  refine xi_iload_n (pc' := 14) (x := 19) kc_67_13 rfl rfl ?_
  refine xi_cmf (pc' := 17) kc_67_14 rfl rfl ?_
  refine xi_iload_n (pc' := 18) (x := 0) kc_67_17 rfl rfl ?_
  refine xi_aload_n (pc' := 19) (x := 115) kc_67_18 rfl rfl ?_
  refine xi_getfield (pc' := 22) (v := .ref 158) kc_67_19 rfl rfl rfl e115 rfl ?_
  refine xi_iload_n (pc' := 23) (x := 19) kc_67_22 rfl rfl ?_
  refine xi_iaload (pc' := 24) (v := 2) kc_67_23 rfl e158 (by decide) rfl (xi_in (n := 24) (by decide) (by decide)) rfl ?_
  refine xi_iconst (pc' := 25) (v := 1) kc_67_24 rfl rfl ?_
  refine xi_cmt (pc' := 51) kc_67_25 rfl rfl ?_
  refine xi_iconst (pc' := 52) (v := 0) kc_67_51 rfl rfl ?_
  refine xi_iadd (pc' := 53) (v := 0) kc_67_52 rfl rfl ?_
  refine xi_istore_n (pc' := 54) (lv' := [(1, .int 0), (3, .int 18), (2, .int 19), (0, .ref 115)]) kc_67_53 rfl rfl (xm_lt ml_67 rfl) ?_
  refine xi_iinc (pc' := 57) (x := 18) (v := 19) (lv' := [(3, .int 19), (1, .int 0), (2, .int 19), (0, .ref 115)]) kc_67_54 rfl rfl rfl rfl (xm_lt ml_67 rfl) ?_
  refine xi_goto (pc' := 12) kc_67_57 rfl ?_
  refine xi_iload_n (pc' := 13) (x := 19) kc_67_12 rfl rfl ?_
  refine xi_iload_n (pc' := 14) (x := 19) kc_67_13 rfl rfl ?_
  refine xi_cmt (pc' := 60) kc_67_14 rfl rfl ?_
  refine xi_iinc (pc' := 63) (x := 19) (v := 20) (lv' := [(2, .int 20), (3, .int 19), (1, .int 0), (0, .ref 115)]) kc_67_60 rfl rfl rfl rfl (xm_lt ml_67 rfl) ?_
  refine xi_goto (pc' := 4) kc_67_63 rfl ?_
  refine xi_iload_n (pc' := 5) (x := 20) kc_67_4 rfl rfl ?_
  refine xi_bipush (pc' := 7) (v := 24) kc_67_5 rfl rfl ?_
  refine xi_cmf (pc' := 10) kc_67_7 rfl rfl ?_
  refine xi_iconst (pc' := 11) (v := 0) kc_67_10 rfl rfl ?_
  refine xi_istore_n (pc' := 12) (lv' := [(3, .int 0), (2, .int 20), (1, .int 0), (0, .ref 115)]) kc_67_11 rfl rfl (xm_lt ml_67 rfl) ?_
  refine xi_iload_n (pc' := 13) (x := 0) kc_67_12 rfl rfl ?_
  refine xi_iload_n (pc' := 14) (x := 20) kc_67_13 rfl rfl ?_
  refine xi_cmf (pc' := 17) kc_67_14 rfl rfl ?_
  refine xi_iload_n (pc' := 18) (x := 0) kc_67_17 rfl rfl ?_
  refine xi_aload_n (pc' := 19) (x := 115) kc_67_18 rfl rfl ?_
  refine xi_getfield (pc' := 22) (v := .ref 158) kc_67_19 rfl rfl rfl e115 rfl ?_
  refine xi_iload_n (pc' := 23) (x := 20) kc_67_22 rfl rfl ?_
  refine xi_iaload (pc' := 24) (v := 2) kc_67_23 rfl e158 (by decide) rfl (xi_in (n := 24) (by decide) (by decide)) rfl ?_
  refine xi_iconst (pc' := 25) (v := 1) kc_67_24 rfl rfl ?_
  refine xi_cmt (pc' := 51) kc_67_25 rfl rfl ?_
  refine xi_iconst (pc' := 52) (v := 0) kc_67_51 rfl rfl ?_
  refine xi_iadd (pc' := 53) (v := 0) kc_67_52 rfl rfl ?_
  refine xi_istore_n (pc' := 54) (lv' := [(1, .int 0), (3, .int 0), (2, .int 20), (0, .ref 115)]) kc_67_53 rfl rfl (xm_lt ml_67 rfl) ?_
  refine xi_iinc (pc' := 57) (x := 0) (v := 1) (lv' := [(3, .int 1), (1, .int 0), (2, .int 20), (0, .ref 115)]) kc_67_54 rfl rfl rfl rfl (xm_lt ml_67 rfl) ?_
  refine xi_goto (pc' := 12) kc_67_57 rfl ?_
  refine xi_iload_n (pc' := 13) (x := 1) kc_67_12 rfl rfl ?_
  refine xi_iload_n (pc' := 14) (x := 20) kc_67_13 rfl rfl ?_
  refine xi_cmf (pc' := 17) kc_67_14 rfl rfl ?_
  refine xi_iload_n (pc' := 18) (x := 0) kc_67_17 rfl rfl ?_
  refine xi_aload_n (pc' := 19) (x := 115) kc_67_18 rfl rfl ?_
  refine xi_getfield (pc' := 22) (v := .ref 158) kc_67_19 rfl rfl rfl e115 rfl ?_
  refine xi_iload_n (pc' := 23) (x := 20) kc_67_22 rfl rfl ?_
  refine xi_iaload (pc' := 24) (v := 2) kc_67_23 rfl e158 (by decide) rfl (xi_in (n := 24) (by decide) (by decide)) rfl ?_
  refine xi_iconst (pc' := 25) (v := 1) kc_67_24 rfl rfl ?_
  refine xi_cmt (pc' := 51) kc_67_25 rfl rfl ?_
  refine xi_iconst (pc' := 52) (v := 0) kc_67_51 rfl rfl ?_
  refine xi_iadd (pc' := 53) (v := 0) kc_67_52 rfl rfl ?_
  refine xi_istore_n (pc' := 54) (lv' := [(1, .int 0), (3, .int 1), (2, .int 20), (0, .ref 115)]) kc_67_53 rfl rfl (xm_lt ml_67 rfl) ?_
  refine xi_iinc (pc' := 57) (x := 1) (v := 2) (lv' := [(3, .int 2), (1, .int 0), (2, .int 20), (0, .ref 115)]) kc_67_54 rfl rfl rfl rfl (xm_lt ml_67 rfl) ?_
  refine xi_goto (pc' := 12) kc_67_57 rfl ?_
  refine xi_iload_n (pc' := 13) (x := 2) kc_67_12 rfl rfl ?_
  refine xi_iload_n (pc' := 14) (x := 20) kc_67_13 rfl rfl ?_
  refine xi_cmf (pc' := 17) kc_67_14 rfl rfl ?_
  refine xi_iload_n (pc' := 18) (x := 0) kc_67_17 rfl rfl ?_
  refine xi_aload_n (pc' := 19) (x := 115) kc_67_18 rfl rfl ?_
  refine xi_getfield (pc' := 22) (v := .ref 158) kc_67_19 rfl rfl rfl e115 rfl ?_
  refine xi_iload_n (pc' := 23) (x := 20) kc_67_22 rfl rfl ?_
  refine xi_iaload (pc' := 24) (v := 2) kc_67_23 rfl e158 (by decide) rfl (xi_in (n := 24) (by decide) (by decide)) rfl ?_
  refine xi_iconst (pc' := 25) (v := 1) kc_67_24 rfl rfl ?_
  refine xi_cmt (pc' := 51) kc_67_25 rfl rfl ?_
  refine xi_iconst (pc' := 52) (v := 0) kc_67_51 rfl rfl ?_
  refine xi_iadd (pc' := 53) (v := 0) kc_67_52 rfl rfl ?_
  refine xi_istore_n (pc' := 54) (lv' := [(1, .int 0), (3, .int 2), (2, .int 20), (0, .ref 115)]) kc_67_53 rfl rfl (xm_lt ml_67 rfl) ?_
  refine xi_iinc (pc' := 57) (x := 2) (v := 3) (lv' := [(3, .int 3), (1, .int 0), (2, .int 20), (0, .ref 115)]) kc_67_54 rfl rfl rfl rfl (xm_lt ml_67 rfl) ?_
  refine xi_goto (pc' := 12) kc_67_57 rfl ?_
  refine xi_iload_n (pc' := 13) (x := 3) kc_67_12 rfl rfl ?_
  refine xi_iload_n (pc' := 14) (x := 20) kc_67_13 rfl rfl ?_
  refine xi_cmf (pc' := 17) kc_67_14 rfl rfl ?_
  refine xi_iload_n (pc' := 18) (x := 0) kc_67_17 rfl rfl ?_
  refine xi_aload_n (pc' := 19) (x := 115) kc_67_18 rfl rfl ?_
  refine xi_getfield (pc' := 22) (v := .ref 158) kc_67_19 rfl rfl rfl e115 rfl ?_
  refine xi_iload_n (pc' := 23) (x := 20) kc_67_22 rfl rfl ?_
  refine xi_iaload (pc' := 24) (v := 2) kc_67_23 rfl e158 (by decide) rfl (xi_in (n := 24) (by decide) (by decide)) rfl ?_
  refine xi_iconst (pc' := 25) (v := 1) kc_67_24 rfl rfl ?_
  refine xi_cmt (pc' := 51) kc_67_25 rfl rfl ?_
  refine xi_iconst (pc' := 52) (v := 0) kc_67_51 rfl rfl ?_
  refine xi_iadd (pc' := 53) (v := 0) kc_67_52 rfl rfl ?_
  refine xi_istore_n (pc' := 54) (lv' := [(1, .int 0), (3, .int 3), (2, .int 20), (0, .ref 115)]) kc_67_53 rfl rfl (xm_lt ml_67 rfl) ?_
  refine xi_iinc (pc' := 57) (x := 3) (v := 4) (lv' := [(3, .int 4), (1, .int 0), (2, .int 20), (0, .ref 115)]) kc_67_54 rfl rfl rfl rfl (xm_lt ml_67 rfl) ?_
  refine xi_goto (pc' := 12) kc_67_57 rfl ?_
  refine xi_iload_n (pc' := 13) (x := 4) kc_67_12 rfl rfl ?_
  refine xi_iload_n (pc' := 14) (x := 20) kc_67_13 rfl rfl ?_
  refine xi_cmf (pc' := 17) kc_67_14 rfl rfl ?_
  refine xi_iload_n (pc' := 18) (x := 0) kc_67_17 rfl rfl ?_
  refine xi_aload_n (pc' := 19) (x := 115) kc_67_18 rfl rfl ?_
  refine xi_getfield (pc' := 22) (v := .ref 158) kc_67_19 rfl rfl rfl e115 rfl ?_
  refine xi_iload_n (pc' := 23) (x := 20) kc_67_22 rfl rfl ?_
  refine xi_iaload (pc' := 24) (v := 2) kc_67_23 rfl e158 (by decide) rfl (xi_in (n := 24) (by decide) (by decide)) rfl ?_
  refine xi_iconst (pc' := 25) (v := 1) kc_67_24 rfl rfl ?_
  refine xi_cmt (pc' := 51) kc_67_25 rfl rfl ?_
  refine xi_iconst (pc' := 52) (v := 0) kc_67_51 rfl rfl ?_
  refine xi_iadd (pc' := 53) (v := 0) kc_67_52 rfl rfl ?_
  refine xi_istore_n (pc' := 54) (lv' := [(1, .int 0), (3, .int 4), (2, .int 20), (0, .ref 115)]) kc_67_53 rfl rfl (xm_lt ml_67 rfl) ?_
  refine xi_iinc (pc' := 57) (x := 4) (v := 5) (lv' := [(3, .int 5), (1, .int 0), (2, .int 20), (0, .ref 115)]) kc_67_54 rfl rfl rfl rfl (xm_lt ml_67 rfl) ?_
  refine xi_goto (pc' := 12) kc_67_57 rfl ?_
  refine xi_iload_n (pc' := 13) (x := 5) kc_67_12 rfl rfl ?_
  refine xi_iload_n (pc' := 14) (x := 20) kc_67_13 rfl rfl ?_
  refine xi_cmf (pc' := 17) kc_67_14 rfl rfl ?_
  refine xi_iload_n (pc' := 18) (x := 0) kc_67_17 rfl rfl ?_
  refine xi_aload_n (pc' := 19) (x := 115) kc_67_18 rfl rfl ?_
  refine xi_getfield (pc' := 22) (v := .ref 158) kc_67_19 rfl rfl rfl e115 rfl ?_
  refine xi_iload_n (pc' := 23) (x := 20) kc_67_22 rfl rfl ?_
  refine xi_iaload (pc' := 24) (v := 2) kc_67_23 rfl e158 (by decide) rfl (xi_in (n := 24) (by decide) (by decide)) rfl ?_
  refine xi_iconst (pc' := 25) (v := 1) kc_67_24 rfl rfl ?_
  refine xi_cmt (pc' := 51) kc_67_25 rfl rfl ?_
  refine xi_iconst (pc' := 52) (v := 0) kc_67_51 rfl rfl ?_
  refine xi_iadd (pc' := 53) (v := 0) kc_67_52 rfl rfl ?_
  refine xi_istore_n (pc' := 54) (lv' := [(1, .int 0), (3, .int 5), (2, .int 20), (0, .ref 115)]) kc_67_53 rfl rfl (xm_lt ml_67 rfl) ?_
  refine xi_iinc (pc' := 57) (x := 5) (v := 6) (lv' := [(3, .int 6), (1, .int 0), (2, .int 20), (0, .ref 115)]) kc_67_54 rfl rfl rfl rfl (xm_lt ml_67 rfl) ?_
  refine xi_goto (pc' := 12) kc_67_57 rfl ?_
  refine xi_iload_n (pc' := 13) (x := 6) kc_67_12 rfl rfl ?_
  refine xi_iload_n (pc' := 14) (x := 20) kc_67_13 rfl rfl ?_
  refine xi_cmf (pc' := 17) kc_67_14 rfl rfl ?_
  refine xi_iload_n (pc' := 18) (x := 0) kc_67_17 rfl rfl ?_
  refine xi_aload_n (pc' := 19) (x := 115) kc_67_18 rfl rfl ?_
  refine xi_getfield (pc' := 22) (v := .ref 158) kc_67_19 rfl rfl rfl e115 rfl ?_
  refine xi_iload_n (pc' := 23) (x := 20) kc_67_22 rfl rfl ?_
  refine xi_iaload (pc' := 24) (v := 2) kc_67_23 rfl e158 (by decide) rfl (xi_in (n := 24) (by decide) (by decide)) rfl ?_
  refine xi_iconst (pc' := 25) (v := 1) kc_67_24 rfl rfl ?_
  refine xi_cmt (pc' := 51) kc_67_25 rfl rfl ?_
  refine xi_iconst (pc' := 52) (v := 0) kc_67_51 rfl rfl ?_
  refine xi_iadd (pc' := 53) (v := 0) kc_67_52 rfl rfl ?_
  refine xi_istore_n (pc' := 54) (lv' := [(1, .int 0), (3, .int 6), (2, .int 20), (0, .ref 115)]) kc_67_53 rfl rfl (xm_lt ml_67 rfl) ?_
  refine xi_iinc (pc' := 57) (x := 6) (v := 7) (lv' := [(3, .int 7), (1, .int 0), (2, .int 20), (0, .ref 115)]) kc_67_54 rfl rfl rfl rfl (xm_lt ml_67 rfl) ?_
  refine xi_goto (pc' := 12) kc_67_57 rfl ?_
  refine xi_iload_n (pc' := 13) (x := 7) kc_67_12 rfl rfl ?_
  refine xi_iload_n (pc' := 14) (x := 20) kc_67_13 rfl rfl ?_
  refine xi_cmf (pc' := 17) kc_67_14 rfl rfl ?_
  refine xi_iload_n (pc' := 18) (x := 0) kc_67_17 rfl rfl ?_
  refine xi_aload_n (pc' := 19) (x := 115) kc_67_18 rfl rfl ?_
  refine xi_getfield (pc' := 22) (v := .ref 158) kc_67_19 rfl rfl rfl e115 rfl ?_
  refine xi_iload_n (pc' := 23) (x := 20) kc_67_22 rfl rfl ?_
  refine xi_iaload (pc' := 24) (v := 2) kc_67_23 rfl e158 (by decide) rfl (xi_in (n := 24) (by decide) (by decide)) rfl ?_
  refine xi_iconst (pc' := 25) (v := 1) kc_67_24 rfl rfl ?_
  refine xi_cmt (pc' := 51) kc_67_25 rfl rfl ?_
  refine xi_iconst (pc' := 52) (v := 0) kc_67_51 rfl rfl ?_
  refine xi_iadd (pc' := 53) (v := 0) kc_67_52 rfl rfl ?_
  refine xi_istore_n (pc' := 54) (lv' := [(1, .int 0), (3, .int 7), (2, .int 20), (0, .ref 115)]) kc_67_53 rfl rfl (xm_lt ml_67 rfl) ?_
  refine xi_iinc (pc' := 57) (x := 7) (v := 8) (lv' := [(3, .int 8), (1, .int 0), (2, .int 20), (0, .ref 115)]) kc_67_54 rfl rfl rfl rfl (xm_lt ml_67 rfl) ?_
  refine xi_goto (pc' := 12) kc_67_57 rfl ?_
  refine xi_iload_n (pc' := 13) (x := 8) kc_67_12 rfl rfl ?_
  refine xi_iload_n (pc' := 14) (x := 20) kc_67_13 rfl rfl ?_
  refine xi_cmf (pc' := 17) kc_67_14 rfl rfl ?_
  refine xi_iload_n (pc' := 18) (x := 0) kc_67_17 rfl rfl ?_
  refine xi_aload_n (pc' := 19) (x := 115) kc_67_18 rfl rfl ?_
  refine xi_getfield (pc' := 22) (v := .ref 158) kc_67_19 rfl rfl rfl e115 rfl ?_
  refine xi_iload_n (pc' := 23) (x := 20) kc_67_22 rfl rfl ?_
  refine xi_iaload (pc' := 24) (v := 2) kc_67_23 rfl e158 (by decide) rfl (xi_in (n := 24) (by decide) (by decide)) rfl ?_
  refine xi_iconst (pc' := 25) (v := 1) kc_67_24 rfl rfl ?_
  refine xi_cmt (pc' := 51) kc_67_25 rfl rfl ?_
  refine xi_iconst (pc' := 52) (v := 0) kc_67_51 rfl rfl ?_
  refine xi_iadd (pc' := 53) (v := 0) kc_67_52 rfl rfl ?_
  refine xi_istore_n (pc' := 54) (lv' := [(1, .int 0), (3, .int 8), (2, .int 20), (0, .ref 115)]) kc_67_53 rfl rfl (xm_lt ml_67 rfl) ?_
  refine xi_iinc (pc' := 57) (x := 8) (v := 9) (lv' := [(3, .int 9), (1, .int 0), (2, .int 20), (0, .ref 115)]) kc_67_54 rfl rfl rfl rfl (xm_lt ml_67 rfl) ?_
  refine xi_goto (pc' := 12) kc_67_57 rfl ?_
  refine xi_iload_n (pc' := 13) (x := 9) kc_67_12 rfl rfl ?_
  refine xi_iload_n (pc' := 14) (x := 20) kc_67_13 rfl rfl ?_
  refine xi_cmf (pc' := 17) kc_67_14 rfl rfl ?_
  refine xi_iload_n (pc' := 18) (x := 0) kc_67_17 rfl rfl ?_
  refine xi_aload_n (pc' := 19) (x := 115) kc_67_18 rfl rfl ?_
  refine xi_getfield (pc' := 22) (v := .ref 158) kc_67_19 rfl rfl rfl e115 rfl ?_
  refine xi_iload_n (pc' := 23) (x := 20) kc_67_22 rfl rfl ?_
  refine xi_iaload (pc' := 24) (v := 2) kc_67_23 rfl e158 (by decide) rfl (xi_in (n := 24) (by decide) (by decide)) rfl ?_
  refine xi_iconst (pc' := 25) (v := 1) kc_67_24 rfl rfl ?_
  refine xi_cmt (pc' := 51) kc_67_25 rfl rfl ?_
  refine xi_iconst (pc' := 52) (v := 0) kc_67_51 rfl rfl ?_
  refine xi_iadd (pc' := 53) (v := 0) kc_67_52 rfl rfl ?_
  refine xi_istore_n (pc' := 54) (lv' := [(1, .int 0), (3, .int 9), (2, .int 20), (0, .ref 115)]) kc_67_53 rfl rfl (xm_lt ml_67 rfl) ?_
  refine xi_iinc (pc' := 57) (x := 9) (v := 10) (lv' := [(3, .int 10), (1, .int 0), (2, .int 20), (0, .ref 115)]) kc_67_54 rfl rfl rfl rfl (xm_lt ml_67 rfl) ?_
  refine xi_goto (pc' := 12) kc_67_57 rfl ?_
  refine xi_iload_n (pc' := 13) (x := 10) kc_67_12 rfl rfl ?_
  refine xi_iload_n (pc' := 14) (x := 20) kc_67_13 rfl rfl ?_
  refine xi_cmf (pc' := 17) kc_67_14 rfl rfl ?_
  refine xi_iload_n (pc' := 18) (x := 0) kc_67_17 rfl rfl ?_
  refine xi_aload_n (pc' := 19) (x := 115) kc_67_18 rfl rfl ?_
  refine xi_getfield (pc' := 22) (v := .ref 158) kc_67_19 rfl rfl rfl e115 rfl ?_
  refine xi_iload_n (pc' := 23) (x := 20) kc_67_22 rfl rfl ?_
  refine xi_iaload (pc' := 24) (v := 2) kc_67_23 rfl e158 (by decide) rfl (xi_in (n := 24) (by decide) (by decide)) rfl ?_
  refine xi_iconst (pc' := 25) (v := 1) kc_67_24 rfl rfl ?_
  refine xi_cmt (pc' := 51) kc_67_25 rfl rfl ?_
  refine xi_iconst (pc' := 52) (v := 0) kc_67_51 rfl rfl ?_
  refine xi_iadd (pc' := 53) (v := 0) kc_67_52 rfl rfl ?_
  refine xi_istore_n (pc' := 54) (lv' := [(1, .int 0), (3, .int 10), (2, .int 20), (0, .ref 115)]) kc_67_53 rfl rfl (xm_lt ml_67 rfl) ?_
  refine xi_iinc (pc' := 57) (x := 10) (v := 11) (lv' := [(3, .int 11), (1, .int 0), (2, .int 20), (0, .ref 115)]) kc_67_54 rfl rfl rfl rfl (xm_lt ml_67 rfl) ?_
  refine xi_goto (pc' := 12) kc_67_57 rfl ?_
  refine xi_iload_n (pc' := 13) (x := 11) kc_67_12 rfl rfl ?_
  refine xi_iload_n (pc' := 14) (x := 20) kc_67_13 rfl rfl ?_
  refine xi_cmf (pc' := 17) kc_67_14 rfl rfl ?_
  refine xi_iload_n (pc' := 18) (x := 0) kc_67_17 rfl rfl ?_
  refine xi_aload_n (pc' := 19) (x := 115) kc_67_18 rfl rfl ?_
  refine xi_getfield (pc' := 22) (v := .ref 158) kc_67_19 rfl rfl rfl e115 rfl ?_
  refine xi_iload_n (pc' := 23) (x := 20) kc_67_22 rfl rfl ?_
  refine xi_iaload (pc' := 24) (v := 2) kc_67_23 rfl e158 (by decide) rfl (xi_in (n := 24) (by decide) (by decide)) rfl ?_
  refine xi_iconst (pc' := 25) (v := 1) kc_67_24 rfl rfl ?_
  refine xi_cmt (pc' := 51) kc_67_25 rfl rfl ?_
  refine xi_iconst (pc' := 52) (v := 0) kc_67_51 rfl rfl ?_
  refine xi_iadd (pc' := 53) (v := 0) kc_67_52 rfl rfl ?_
  refine xi_istore_n (pc' := 54) (lv' := [(1, .int 0), (3, .int 11), (2, .int 20), (0, .ref 115)]) kc_67_53 rfl rfl (xm_lt ml_67 rfl) ?_
  refine xi_iinc (pc' := 57) (x := 11) (v := 12) (lv' := [(3, .int 12), (1, .int 0), (2, .int 20), (0, .ref 115)]) kc_67_54 rfl rfl rfl rfl (xm_lt ml_67 rfl) ?_
  refine xi_goto (pc' := 12) kc_67_57 rfl ?_
  refine xi_iload_n (pc' := 13) (x := 12) kc_67_12 rfl rfl ?_
  refine xi_iload_n (pc' := 14) (x := 20) kc_67_13 rfl rfl ?_
  refine xi_cmf (pc' := 17) kc_67_14 rfl rfl ?_
  refine xi_iload_n (pc' := 18) (x := 0) kc_67_17 rfl rfl ?_
  refine xi_aload_n (pc' := 19) (x := 115) kc_67_18 rfl rfl ?_
  refine xi_getfield (pc' := 22) (v := .ref 158) kc_67_19 rfl rfl rfl e115 rfl ?_
  refine xi_iload_n (pc' := 23) (x := 20) kc_67_22 rfl rfl ?_
  refine xi_iaload (pc' := 24) (v := 2) kc_67_23 rfl e158 (by decide) rfl (xi_in (n := 24) (by decide) (by decide)) rfl ?_
  refine xi_iconst (pc' := 25) (v := 1) kc_67_24 rfl rfl ?_
  refine xi_cmt (pc' := 51) kc_67_25 rfl rfl ?_
  refine xi_iconst (pc' := 52) (v := 0) kc_67_51 rfl rfl ?_
  refine xi_iadd (pc' := 53) (v := 0) kc_67_52 rfl rfl ?_
  refine xi_istore_n (pc' := 54) (lv' := [(1, .int 0), (3, .int 12), (2, .int 20), (0, .ref 115)]) kc_67_53 rfl rfl (xm_lt ml_67 rfl) ?_
  refine xi_iinc (pc' := 57) (x := 12) (v := 13) (lv' := [(3, .int 13), (1, .int 0), (2, .int 20), (0, .ref 115)]) kc_67_54 rfl rfl rfl rfl (xm_lt ml_67 rfl) ?_
  refine xi_goto (pc' := 12) kc_67_57 rfl ?_
  refine xi_iload_n (pc' := 13) (x := 13) kc_67_12 rfl rfl ?_
  refine xi_iload_n (pc' := 14) (x := 20) kc_67_13 rfl rfl ?_
  refine xi_cmf (pc' := 17) kc_67_14 rfl rfl ?_
  refine xi_iload_n (pc' := 18) (x := 0) kc_67_17 rfl rfl ?_
  refine xi_aload_n (pc' := 19) (x := 115) kc_67_18 rfl rfl ?_
  refine xi_getfield (pc' := 22) (v := .ref 158) kc_67_19 rfl rfl rfl e115 rfl ?_
  refine xi_iload_n (pc' := 23) (x := 20) kc_67_22 rfl rfl ?_
  refine xi_iaload (pc' := 24) (v := 2) kc_67_23 rfl e158 (by decide) rfl (xi_in (n := 24) (by decide) (by decide)) rfl ?_
  refine xi_iconst (pc' := 25) (v := 1) kc_67_24 rfl rfl ?_
  refine xi_cmt (pc' := 51) kc_67_25 rfl rfl ?_
  refine xi_iconst (pc' := 52) (v := 0) kc_67_51 rfl rfl ?_
  refine xi_iadd (pc' := 53) (v := 0) kc_67_52 rfl rfl ?_
  refine xi_istore_n (pc' := 54) (lv' := [(1, .int 0), (3, .int 13), (2, .int 20), (0, .ref 115)]) kc_67_53 rfl rfl (xm_lt ml_67 rfl) ?_
  refine xi_iinc (pc' := 57) (x := 13) (v := 14) (lv' := [(3, .int 14), (1, .int 0), (2, .int 20), (0, .ref 115)]) kc_67_54 rfl rfl rfl rfl (xm_lt ml_67 rfl) ?_
  refine xi_goto (pc' := 12) kc_67_57 rfl ?_
  refine xi_iload_n (pc' := 13) (x := 14) kc_67_12 rfl rfl ?_
  refine xi_iload_n (pc' := 14) (x := 20) kc_67_13 rfl rfl ?_
  refine xi_cmf (pc' := 17) kc_67_14 rfl rfl ?_
  refine xi_iload_n (pc' := 18) (x := 0) kc_67_17 rfl rfl ?_
  refine xi_aload_n (pc' := 19) (x := 115) kc_67_18 rfl rfl ?_
  refine xi_getfield (pc' := 22) (v := .ref 158) kc_67_19 rfl rfl rfl e115 rfl ?_
  refine xi_iload_n (pc' := 23) (x := 20) kc_67_22 rfl rfl ?_
  refine xi_iaload (pc' := 24) (v := 2) kc_67_23 rfl e158 (by decide) rfl (xi_in (n := 24) (by decide) (by decide)) rfl ?_
  refine xi_iconst (pc' := 25) (v := 1) kc_67_24 rfl rfl ?_
  refine xi_cmt (pc' := 51) kc_67_25 rfl rfl ?_
  refine xi_iconst (pc' := 52) (v := 0) kc_67_51 rfl rfl ?_
  refine xi_iadd (pc' := 53) (v := 0) kc_67_52 rfl rfl ?_
  refine xi_istore_n (pc' := 54) (lv' := [(1, .int 0), (3, .int 14), (2, .int 20), (0, .ref 115)]) kc_67_53 rfl rfl (xm_lt ml_67 rfl) ?_
  refine xi_iinc (pc' := 57) (x := 14) (v := 15) (lv' := [(3, .int 15), (1, .int 0), (2, .int 20), (0, .ref 115)]) kc_67_54 rfl rfl rfl rfl (xm_lt ml_67 rfl) ?_
  refine xi_goto (pc' := 12) kc_67_57 rfl ?_
  refine xi_iload_n (pc' := 13) (x := 15) kc_67_12 rfl rfl ?_
  refine xi_iload_n (pc' := 14) (x := 20) kc_67_13 rfl rfl ?_
  refine xi_cmf (pc' := 17) kc_67_14 rfl rfl ?_
  refine xi_iload_n (pc' := 18) (x := 0) kc_67_17 rfl rfl ?_
  refine xi_aload_n (pc' := 19) (x := 115) kc_67_18 rfl rfl ?_
  refine xi_getfield (pc' := 22) (v := .ref 158) kc_67_19 rfl rfl rfl e115 rfl ?_
  refine xi_iload_n (pc' := 23) (x := 20) kc_67_22 rfl rfl ?_
  refine xi_iaload (pc' := 24) (v := 2) kc_67_23 rfl e158 (by decide) rfl (xi_in (n := 24) (by decide) (by decide)) rfl ?_
  refine xi_iconst (pc' := 25) (v := 1) kc_67_24 rfl rfl ?_
  refine xi_cmt (pc' := 51) kc_67_25 rfl rfl ?_
  refine xi_iconst (pc' := 52) (v := 0) kc_67_51 rfl rfl ?_
  refine xi_iadd (pc' := 53) (v := 0) kc_67_52 rfl rfl ?_
  refine xi_istore_n (pc' := 54) (lv' := [(1, .int 0), (3, .int 15), (2, .int 20), (0, .ref 115)]) kc_67_53 rfl rfl (xm_lt ml_67 rfl) ?_
  refine xi_iinc (pc' := 57) (x := 15) (v := 16) (lv' := [(3, .int 16), (1, .int 0), (2, .int 20), (0, .ref 115)]) kc_67_54 rfl rfl rfl rfl (xm_lt ml_67 rfl) ?_
  refine xi_goto (pc' := 12) kc_67_57 rfl ?_
  refine xi_iload_n (pc' := 13) (x := 16) kc_67_12 rfl rfl ?_
  refine xi_iload_n (pc' := 14) (x := 20) kc_67_13 rfl rfl ?_
  refine xi_cmf (pc' := 17) kc_67_14 rfl rfl ?_
  refine xi_iload_n (pc' := 18) (x := 0) kc_67_17 rfl rfl ?_
  refine xi_aload_n (pc' := 19) (x := 115) kc_67_18 rfl rfl ?_
  refine xi_getfield (pc' := 22) (v := .ref 158) kc_67_19 rfl rfl rfl e115 rfl ?_
  refine xi_iload_n (pc' := 23) (x := 20) kc_67_22 rfl rfl ?_
  refine xi_iaload (pc' := 24) (v := 2) kc_67_23 rfl e158 (by decide) rfl (xi_in (n := 24) (by decide) (by decide)) rfl ?_
  refine xi_iconst (pc' := 25) (v := 1) kc_67_24 rfl rfl ?_
  refine xi_cmt (pc' := 51) kc_67_25 rfl rfl ?_
  refine xi_iconst (pc' := 52) (v := 0) kc_67_51 rfl rfl ?_
  refine xi_iadd (pc' := 53) (v := 0) kc_67_52 rfl rfl ?_
  refine xi_istore_n (pc' := 54) (lv' := [(1, .int 0), (3, .int 16), (2, .int 20), (0, .ref 115)]) kc_67_53 rfl rfl (xm_lt ml_67 rfl) ?_
  refine xi_iinc (pc' := 57) (x := 16) (v := 17) (lv' := [(3, .int 17), (1, .int 0), (2, .int 20), (0, .ref 115)]) kc_67_54 rfl rfl rfl rfl (xm_lt ml_67 rfl) ?_
  refine xi_goto (pc' := 12) kc_67_57 rfl ?_
  refine xi_iload_n (pc' := 13) (x := 17) kc_67_12 rfl rfl ?_
  refine xi_iload_n (pc' := 14) (x := 20) kc_67_13 rfl rfl ?_
  refine xi_cmf (pc' := 17) kc_67_14 rfl rfl ?_
  refine xi_iload_n (pc' := 18) (x := 0) kc_67_17 rfl rfl ?_
  refine xi_aload_n (pc' := 19) (x := 115) kc_67_18 rfl rfl ?_
  refine xi_getfield (pc' := 22) (v := .ref 158) kc_67_19 rfl rfl rfl e115 rfl ?_
  refine xi_iload_n (pc' := 23) (x := 20) kc_67_22 rfl rfl ?_
  refine xi_iaload (pc' := 24) (v := 2) kc_67_23 rfl e158 (by decide) rfl (xi_in (n := 24) (by decide) (by decide)) rfl ?_
  refine xi_iconst (pc' := 25) (v := 1) kc_67_24 rfl rfl ?_
  refine xi_cmt (pc' := 51) kc_67_25 rfl rfl ?_
  refine xi_iconst (pc' := 52) (v := 0) kc_67_51 rfl rfl ?_
  refine xi_iadd (pc' := 53) (v := 0) kc_67_52 rfl rfl ?_
  refine xi_istore_n (pc' := 54) (lv' := [(1, .int 0), (3, .int 17), (2, .int 20), (0, .ref 115)]) kc_67_53 rfl rfl (xm_lt ml_67 rfl) ?_
  refine xi_iinc (pc' := 57) (x := 17) (v := 18) (lv' := [(3, .int 18), (1, .int 0), (2, .int 20), (0, .ref 115)]) kc_67_54 rfl rfl rfl rfl (xm_lt ml_67 rfl) ?_
  refine xi_goto (pc' := 12) kc_67_57 rfl ?_
  refine xi_iload_n (pc' := 13) (x := 18) kc_67_12 rfl rfl ?_
  refine xi_iload_n (pc' := 14) (x := 20) kc_67_13 rfl rfl ?_
  refine xi_cmf (pc' := 17) kc_67_14 rfl rfl ?_
  refine xi_iload_n (pc' := 18) (x := 0) kc_67_17 rfl rfl ?_
  refine xi_aload_n (pc' := 19) (x := 115) kc_67_18 rfl rfl ?_
  refine xi_getfield (pc' := 22) (v := .ref 158) kc_67_19 rfl rfl rfl e115 rfl ?_
  refine xi_iload_n (pc' := 23) (x := 20) kc_67_22 rfl rfl ?_
  refine xi_iaload (pc' := 24) (v := 2) kc_67_23 rfl e158 (by decide) rfl (xi_in (n := 24) (by decide) (by decide)) rfl ?_
  refine xi_iconst (pc' := 25) (v := 1) kc_67_24 rfl rfl ?_
  refine xi_cmt (pc' := 51) kc_67_25 rfl rfl ?_
  refine xi_iconst (pc' := 52) (v := 0) kc_67_51 rfl rfl ?_
  refine xi_iadd (pc' := 53) (v := 0) kc_67_52 rfl rfl ?_
  refine xi_istore_n (pc' := 54) (lv' := [(1, .int 0), (3, .int 18), (2, .int 20), (0, .ref 115)]) kc_67_53 rfl rfl (xm_lt ml_67 rfl) ?_
  refine xi_iinc (pc' := 57) (x := 18) (v := 19) (lv' := [(3, .int 19), (1, .int 0), (2, .int 20), (0, .ref 115)]) kc_67_54 rfl rfl rfl rfl (xm_lt ml_67 rfl) ?_
  refine xi_goto (pc' := 12) kc_67_57 rfl ?_
  refine xi_iload_n (pc' := 13) (x := 19) kc_67_12 rfl rfl ?_
  refine xi_iload_n (pc' := 14) (x := 20) kc_67_13 rfl rfl ?_
  refine xi_cmf (pc' := 17) kc_67_14 rfl rfl ?_
  refine xi_iload_n (pc' := 18) (x := 0) kc_67_17 rfl rfl ?_
  refine xi_aload_n (pc' := 19) (x := 115) kc_67_18 rfl rfl ?_
  refine xi_getfield (pc' := 22) (v := .ref 158) kc_67_19 rfl rfl rfl e115 rfl ?_
  refine xi_iload_n (pc' := 23) (x := 20) kc_67_22 rfl rfl ?_
  refine xi_iaload (pc' := 24) (v := 2) kc_67_23 rfl e158 (by decide) rfl (xi_in (n := 24) (by decide) (by decide)) rfl ?_
  refine xi_iconst (pc' := 25) (v := 1) kc_67_24 rfl rfl ?_
  refine xi_cmt (pc' := 51) kc_67_25 rfl rfl ?_
  refine xi_iconst (pc' := 52) (v := 0) kc_67_51 rfl rfl ?_
  refine xi_iadd (pc' := 53) (v := 0) kc_67_52 rfl rfl ?_
  refine xi_istore_n (pc' := 54) (lv' := [(1, .int 0), (3, .int 19), (2, .int 20), (0, .ref 115)]) kc_67_53 rfl rfl (xm_lt ml_67 rfl) ?_
  refine xi_iinc (pc' := 57) (x := 19) (v := 20) (lv' := [(3, .int 20), (1, .int 0), (2, .int 20), (0, .ref 115)]) kc_67_54 rfl rfl rfl rfl (xm_lt ml_67 rfl) ?_
  refine xi_goto (pc' := 12) kc_67_57 rfl ?_
  refine xi_iload_n (pc' := 13) (x := 20) kc_67_12 rfl rfl ?_
  refine xi_iload_n (pc' := 14) (x := 20) kc_67_13 rfl rfl ?_
  refine xi_cmt (pc' := 60) kc_67_14 rfl rfl ?_
  refine xi_iinc (pc' := 63) (x := 20) (v := 21) (lv' := [(2, .int 21), (3, .int 20), (1, .int 0), (0, .ref 115)]) kc_67_60 rfl rfl rfl rfl (xm_lt ml_67 rfl) ?_
  refine xi_goto (pc' := 4) kc_67_63 rfl ?_
  refine xi_iload_n (pc' := 5) (x := 21) kc_67_4 rfl rfl ?_
  refine xi_bipush (pc' := 7) (v := 24) kc_67_5 rfl rfl ?_
  refine xi_cmf (pc' := 10) kc_67_7 rfl rfl ?_
  refine xi_iconst (pc' := 11) (v := 0) kc_67_10 rfl rfl ?_
  refine xi_istore_n (pc' := 12) (lv' := [(3, .int 0), (2, .int 21), (1, .int 0), (0, .ref 115)]) kc_67_11 rfl rfl (xm_lt ml_67 rfl) ?_
  refine xi_iload_n (pc' := 13) (x := 0) kc_67_12 rfl rfl ?_
  refine xi_iload_n (pc' := 14) (x := 21) kc_67_13 rfl rfl ?_
  refine xi_cmf (pc' := 17) kc_67_14 rfl rfl ?_
  refine xi_iload_n (pc' := 18) (x := 0) kc_67_17 rfl rfl ?_
  refine xi_aload_n (pc' := 19) (x := 115) kc_67_18 rfl rfl ?_
  refine xi_getfield (pc' := 22) (v := .ref 158) kc_67_19 rfl rfl rfl e115 rfl ?_
  refine xi_iload_n (pc' := 23) (x := 21) kc_67_22 rfl rfl ?_
  refine xi_iaload (pc' := 24) (v := 2) kc_67_23 rfl e158 (by decide) rfl (xi_in (n := 24) (by decide) (by decide)) rfl ?_
  refine xi_iconst (pc' := 25) (v := 1) kc_67_24 rfl rfl ?_
  refine xi_cmt (pc' := 51) kc_67_25 rfl rfl ?_
  refine xi_iconst (pc' := 52) (v := 0) kc_67_51 rfl rfl ?_
  refine xi_iadd (pc' := 53) (v := 0) kc_67_52 rfl rfl ?_
  refine xi_istore_n (pc' := 54) (lv' := [(1, .int 0), (3, .int 0), (2, .int 21), (0, .ref 115)]) kc_67_53 rfl rfl (xm_lt ml_67 rfl) ?_
  refine xi_iinc (pc' := 57) (x := 0) (v := 1) (lv' := [(3, .int 1), (1, .int 0), (2, .int 21), (0, .ref 115)]) kc_67_54 rfl rfl rfl rfl (xm_lt ml_67 rfl) ?_
  refine xi_goto (pc' := 12) kc_67_57 rfl ?_
  refine xi_iload_n (pc' := 13) (x := 1) kc_67_12 rfl rfl ?_
  refine xi_iload_n (pc' := 14) (x := 21) kc_67_13 rfl rfl ?_
  refine xi_cmf (pc' := 17) kc_67_14 rfl rfl ?_
  refine xi_iload_n (pc' := 18) (x := 0) kc_67_17 rfl rfl ?_
  refine xi_aload_n (pc' := 19) (x := 115) kc_67_18 rfl rfl ?_
  refine xi_getfield (pc' := 22) (v := .ref 158) kc_67_19 rfl rfl rfl e115 rfl ?_
  refine xi_iload_n (pc' := 23) (x := 21) kc_67_22 rfl rfl ?_
  refine xi_iaload (pc' := 24) (v := 2) kc_67_23 rfl e158 (by decide) rfl (xi_in (n := 24) (by decide) (by decide)) rfl ?_
  refine xi_iconst (pc' := 25) (v := 1) kc_67_24 rfl rfl ?_
  refine xi_cmt (pc' := 51) kc_67_25 rfl rfl ?_
  refine xi_iconst (pc' := 52) (v := 0) kc_67_51 rfl rfl ?_
  refine xi_iadd (pc' := 53) (v := 0) kc_67_52 rfl rfl ?_
  refine xi_istore_n (pc' := 54) (lv' := [(1, .int 0), (3, .int 1), (2, .int 21), (0, .ref 115)]) kc_67_53 rfl rfl (xm_lt ml_67 rfl) ?_
  refine xi_iinc (pc' := 57) (x := 1) (v := 2) (lv' := [(3, .int 2), (1, .int 0), (2, .int 21), (0, .ref 115)]) kc_67_54 rfl rfl rfl rfl (xm_lt ml_67 rfl) ?_
  refine xi_goto (pc' := 12) kc_67_57 rfl ?_
  refine xi_iload_n (pc' := 13) (x := 2) kc_67_12 rfl rfl ?_
  refine xi_iload_n (pc' := 14) (x := 21) kc_67_13 rfl rfl ?_
  refine xi_cmf (pc' := 17) kc_67_14 rfl rfl ?_
  refine xi_iload_n (pc' := 18) (x := 0) kc_67_17 rfl rfl ?_
  refine xi_aload_n (pc' := 19) (x := 115) kc_67_18 rfl rfl ?_
  refine xi_getfield (pc' := 22) (v := .ref 158) kc_67_19 rfl rfl rfl e115 rfl ?_
  refine xi_iload_n (pc' := 23) (x := 21) kc_67_22 rfl rfl ?_
  refine xi_iaload (pc' := 24) (v := 2) kc_67_23 rfl e158 (by decide) rfl (xi_in (n := 24) (by decide) (by decide)) rfl ?_
  refine xi_iconst (pc' := 25) (v := 1) kc_67_24 rfl rfl ?_
  refine xi_cmt (pc' := 51) kc_67_25 rfl rfl ?_
  refine xi_iconst (pc' := 52) (v := 0) kc_67_51 rfl rfl ?_
  refine xi_iadd (pc' := 53) (v := 0) kc_67_52 rfl rfl ?_
  refine xi_istore_n (pc' := 54) (lv' := [(1, .int 0), (3, .int 2), (2, .int 21), (0, .ref 115)]) kc_67_53 rfl rfl (xm_lt ml_67 rfl) ?_
  refine xi_iinc (pc' := 57) (x := 2) (v := 3) (lv' := [(3, .int 3), (1, .int 0), (2, .int 21), (0, .ref 115)]) kc_67_54 rfl rfl rfl rfl (xm_lt ml_67 rfl) ?_
  refine xi_goto (pc' := 12) kc_67_57 rfl ?_
  refine xi_iload_n (pc' := 13) (x := 3) kc_67_12 rfl rfl ?_
  refine xi_iload_n (pc' := 14) (x := 21) kc_67_13 rfl rfl ?_
  refine xi_cmf (pc' := 17) kc_67_14 rfl rfl ?_
  refine xi_iload_n (pc' := 18) (x := 0) kc_67_17 rfl rfl ?_
  refine xi_aload_n (pc' := 19) (x := 115) kc_67_18 rfl rfl ?_
  refine xi_getfield (pc' := 22) (v := .ref 158) kc_67_19 rfl rfl rfl e115 rfl ?_
  refine xi_iload_n (pc' := 23) (x := 21) kc_67_22 rfl rfl ?_
  refine xi_iaload (pc' := 24) (v := 2) kc_67_23 rfl e158 (by decide) rfl (xi_in (n := 24) (by decide) (by decide)) rfl ?_
  refine xi_iconst (pc' := 25) (v := 1) kc_67_24 rfl rfl ?_
  refine xi_cmt (pc' := 51) kc_67_25 rfl rfl ?_
  refine xi_iconst (pc' := 52) (v := 0) kc_67_51 rfl rfl ?_
  refine xi_iadd (pc' := 53) (v := 0) kc_67_52 rfl rfl ?_
  refine xi_istore_n (pc' := 54) (lv' := [(1, .int 0), (3, .int 3), (2, .int 21), (0, .ref 115)]) kc_67_53 rfl rfl (xm_lt ml_67 rfl) ?_
  refine xi_iinc (pc' := 57) (x := 3) (v := 4) (lv' := [(3, .int 4), (1, .int 0), (2, .int 21), (0, .ref 115)]) kc_67_54 rfl rfl rfl rfl (xm_lt ml_67 rfl) ?_
  refine xi_goto (pc' := 12) kc_67_57 rfl ?_
  refine xi_iload_n (pc' := 13) (x := 4) kc_67_12 rfl rfl ?_
  refine xi_iload_n (pc' := 14) (x := 21) kc_67_13 rfl rfl ?_
  refine xi_cmf (pc' := 17) kc_67_14 rfl rfl ?_
  refine xi_iload_n (pc' := 18) (x := 0) kc_67_17 rfl rfl ?_
  refine xi_aload_n (pc' := 19) (x := 115) kc_67_18 rfl rfl ?_
  refine xi_getfield (pc' := 22) (v := .ref 158) kc_67_19 rfl rfl rfl e115 rfl ?_
  refine xi_iload_n (pc' := 23) (x := 21) kc_67_22 rfl rfl ?_
  refine xi_iaload (pc' := 24) (v := 2) kc_67_23 rfl e158 (by decide) rfl (xi_in (n := 24) (by decide) (by decide)) rfl ?_
  refine xi_iconst (pc' := 25) (v := 1) kc_67_24 rfl rfl ?_
  refine xi_cmt (pc' := 51) kc_67_25 rfl rfl ?_
  refine xi_iconst (pc' := 52) (v := 0) kc_67_51 rfl rfl ?_
  refine xi_iadd (pc' := 53) (v := 0) kc_67_52 rfl rfl ?_
  refine xi_istore_n (pc' := 54) (lv' := [(1, .int 0), (3, .int 4), (2, .int 21), (0, .ref 115)]) kc_67_53 rfl rfl (xm_lt ml_67 rfl) ?_
  refine xi_iinc (pc' := 57) (x := 4) (v := 5) (lv' := [(3, .int 5), (1, .int 0), (2, .int 21), (0, .ref 115)]) kc_67_54 rfl rfl rfl rfl (xm_lt ml_67 rfl) ?_
  refine xi_goto (pc' := 12) kc_67_57 rfl ?_
  refine xi_iload_n (pc' := 13) (x := 5) kc_67_12 rfl rfl ?_
  refine xi_iload_n (pc' := 14) (x := 21) kc_67_13 rfl rfl ?_
  refine xi_cmf (pc' := 17) kc_67_14 rfl rfl ?_
  refine xi_iload_n (pc' := 18) (x := 0) kc_67_17 rfl rfl ?_
  refine xi_aload_n (pc' := 19) (x := 115) kc_67_18 rfl rfl ?_
  refine xi_getfield (pc' := 22) (v := .ref 158) kc_67_19 rfl rfl rfl e115 rfl ?_
  refine xi_iload_n (pc' := 23) (x := 21) kc_67_22 rfl rfl ?_
  refine xi_iaload (pc' := 24) (v := 2) kc_67_23 rfl e158 (by decide) rfl (xi_in (n := 24) (by decide) (by decide)) rfl ?_
  refine xi_iconst (pc' := 25) (v := 1) kc_67_24 rfl rfl ?_
  refine xi_cmt (pc' := 51) kc_67_25 rfl rfl ?_
  refine xi_iconst (pc' := 52) (v := 0) kc_67_51 rfl rfl ?_
  refine xi_iadd (pc' := 53) (v := 0) kc_67_52 rfl rfl ?_
  refine xi_istore_n (pc' := 54) (lv' := [(1, .int 0), (3, .int 5), (2, .int 21), (0, .ref 115)]) kc_67_53 rfl rfl (xm_lt ml_67 rfl) ?_
  refine xi_iinc (pc' := 57) (x := 5) (v := 6) (lv' := [(3, .int 6), (1, .int 0), (2, .int 21), (0, .ref 115)]) kc_67_54 rfl rfl rfl rfl (xm_lt ml_67 rfl) ?_
  refine xi_goto (pc' := 12) kc_67_57 rfl ?_
  refine xi_iload_n (pc' := 13) (x := 6) kc_67_12 rfl rfl ?_
  refine xi_iload_n (pc' := 14) (x := 21) kc_67_13 rfl rfl ?_
  refine xi_cmf (pc' := 17) kc_67_14 rfl rfl ?_
  refine xi_iload_n (pc' := 18) (x := 0) kc_67_17 rfl rfl ?_
  refine xi_aload_n (pc' := 19) (x := 115) kc_67_18 rfl rfl ?_
  refine xi_getfield (pc' := 22) (v := .ref 158) kc_67_19 rfl rfl rfl e115 rfl ?_
  refine xi_iload_n (pc' := 23) (x := 21) kc_67_22 rfl rfl ?_
  refine xi_iaload (pc' := 24) (v := 2) kc_67_23 rfl e158 (by decide) rfl (xi_in (n := 24) (by decide) (by decide)) rfl ?_
  refine xi_iconst (pc' := 25) (v := 1) kc_67_24 rfl rfl ?_
  refine xi_cmt (pc' := 51) kc_67_25 rfl rfl ?_
  refine xi_iconst (pc' := 52) (v := 0) kc_67_51 rfl rfl ?_
  refine xi_iadd (pc' := 53) (v := 0) kc_67_52 rfl rfl ?_
  refine xi_istore_n (pc' := 54) (lv' := [(1, .int 0), (3, .int 6), (2, .int 21), (0, .ref 115)]) kc_67_53 rfl rfl (xm_lt ml_67 rfl) ?_
  refine xi_iinc (pc' := 57) (x := 6) (v := 7) (lv' := [(3, .int 7), (1, .int 0), (2, .int 21), (0, .ref 115)]) kc_67_54 rfl rfl rfl rfl (xm_lt ml_67 rfl) ?_
  refine xi_goto (pc' := 12) kc_67_57 rfl ?_
  refine xi_iload_n (pc' := 13) (x := 7) kc_67_12 rfl rfl ?_
  refine xi_iload_n (pc' := 14) (x := 21) kc_67_13 rfl rfl ?_
  refine xi_cmf (pc' := 17) kc_67_14 rfl rfl ?_
  refine xi_iload_n (pc' := 18) (x := 0) kc_67_17 rfl rfl ?_
  refine xi_aload_n (pc' := 19) (x := 115) kc_67_18 rfl rfl ?_
  refine xi_getfield (pc' := 22) (v := .ref 158) kc_67_19 rfl rfl rfl e115 rfl ?_
  refine xi_iload_n (pc' := 23) (x := 21) kc_67_22 rfl rfl ?_
  refine xi_iaload (pc' := 24) (v := 2) kc_67_23 rfl e158 (by decide) rfl (xi_in (n := 24) (by decide) (by decide)) rfl ?_
  refine xi_iconst (pc' := 25) (v := 1) kc_67_24 rfl rfl ?_
  refine xi_cmt (pc' := 51) kc_67_25 rfl rfl ?_
  refine xi_iconst (pc' := 52) (v := 0) kc_67_51 rfl rfl ?_
  refine xi_iadd (pc' := 53) (v := 0) kc_67_52 rfl rfl ?_
  refine xi_istore_n (pc' := 54) (lv' := [(1, .int 0), (3, .int 7), (2, .int 21), (0, .ref 115)]) kc_67_53 rfl rfl (xm_lt ml_67 rfl) ?_
  refine xi_iinc (pc' := 57) (x := 7) (v := 8) (lv' := [(3, .int 8), (1, .int 0), (2, .int 21), (0, .ref 115)]) kc_67_54 rfl rfl rfl rfl (xm_lt ml_67 rfl) ?_
  refine xi_goto (pc' := 12) kc_67_57 rfl ?_
  refine xi_iload_n (pc' := 13) (x := 8) kc_67_12 rfl rfl ?_
  refine xi_iload_n (pc' := 14) (x := 21) kc_67_13 rfl rfl ?_
  refine xi_cmf (pc' := 17) kc_67_14 rfl rfl ?_
  refine xi_iload_n (pc' := 18) (x := 0) kc_67_17 rfl rfl ?_
  refine xi_aload_n (pc' := 19) (x := 115) kc_67_18 rfl rfl ?_
  refine xi_getfield (pc' := 22) (v := .ref 158) kc_67_19 rfl rfl rfl e115 rfl ?_
  refine xi_iload_n (pc' := 23) (x := 21) kc_67_22 rfl rfl ?_
  refine xi_iaload (pc' := 24) (v := 2) kc_67_23 rfl e158 (by decide) rfl (xi_in (n := 24) (by decide) (by decide)) rfl ?_
  refine xi_iconst (pc' := 25) (v := 1) kc_67_24 rfl rfl ?_
  refine xi_cmt (pc' := 51) kc_67_25 rfl rfl ?_
  refine xi_iconst (pc' := 52) (v := 0) kc_67_51 rfl rfl ?_
  refine xi_iadd (pc' := 53) (v := 0) kc_67_52 rfl rfl ?_
  refine xi_istore_n (pc' := 54) (lv' := [(1, .int 0), (3, .int 8), (2, .int 21), (0, .ref 115)]) kc_67_53 rfl rfl (xm_lt ml_67 rfl) ?_
  refine xi_iinc (pc' := 57) (x := 8) (v := 9) (lv' := [(3, .int 9), (1, .int 0), (2, .int 21), (0, .ref 115)]) kc_67_54 rfl rfl rfl rfl (xm_lt ml_67 rfl) ?_
  refine xi_goto (pc' := 12) kc_67_57 rfl ?_
  refine xi_iload_n (pc' := 13) (x := 9) kc_67_12 rfl rfl ?_
  refine xi_iload_n (pc' := 14) (x := 21) kc_67_13 rfl rfl ?_
  refine xi_cmf (pc' := 17) kc_67_14 rfl rfl ?_
  refine xi_iload_n (pc' := 18) (x := 0) kc_67_17 rfl rfl ?_
  refine xi_aload_n (pc' := 19) (x := 115) kc_67_18 rfl rfl ?_
  refine xi_getfield (pc' := 22) (v := .ref 158) kc_67_19 rfl rfl rfl e115 rfl ?_
  refine xi_iload_n (pc' := 23) (x := 21) kc_67_22 rfl rfl ?_
  refine xi_iaload (pc' := 24) (v := 2) kc_67_23 rfl e158 (by decide) rfl (xi_in (n := 24) (by decide) (by decide)) rfl ?_
  refine xi_iconst (pc' := 25) (v := 1) kc_67_24 rfl rfl ?_
  refine xi_cmt (pc' := 51) kc_67_25 rfl rfl ?_
  refine xi_iconst (pc' := 52) (v := 0) kc_67_51 rfl rfl ?_
  refine xi_iadd (pc' := 53) (v := 0) kc_67_52 rfl rfl ?_
  refine xi_istore_n (pc' := 54) (lv' := [(1, .int 0), (3, .int 9), (2, .int 21), (0, .ref 115)]) kc_67_53 rfl rfl (xm_lt ml_67 rfl) ?_
  refine xi_iinc (pc' := 57) (x := 9) (v := 10) (lv' := [(3, .int 10), (1, .int 0), (2, .int 21), (0, .ref 115)]) kc_67_54 rfl rfl rfl rfl (xm_lt ml_67 rfl) ?_
  refine xi_goto (pc' := 12) kc_67_57 rfl ?_
  refine xi_iload_n (pc' := 13) (x := 10) kc_67_12 rfl rfl ?_
  refine xi_iload_n (pc' := 14) (x := 21) kc_67_13 rfl rfl ?_
  refine xi_cmf (pc' := 17) kc_67_14 rfl rfl ?_
  refine xi_iload_n (pc' := 18) (x := 0) kc_67_17 rfl rfl ?_
  refine xi_aload_n (pc' := 19) (x := 115) kc_67_18 rfl rfl ?_
  refine xi_getfield (pc' := 22) (v := .ref 158) kc_67_19 rfl rfl rfl e115 rfl ?_
  refine xi_iload_n (pc' := 23) (x := 21) kc_67_22 rfl rfl ?_
  refine xi_iaload (pc' := 24) (v := 2) kc_67_23 rfl e158 (by decide) rfl (xi_in (n := 24) (by decide) (by decide)) rfl ?_
  refine xi_iconst (pc' := 25) (v := 1) kc_67_24 rfl rfl ?_
  refine xi_cmt (pc' := 51) kc_67_25 rfl rfl ?_
  refine xi_iconst (pc' := 52) (v := 0) kc_67_51 rfl rfl ?_
  refine xi_iadd (pc' := 53) (v := 0) kc_67_52 rfl rfl ?_
  refine xi_istore_n (pc' := 54) (lv' := [(1, .int 0), (3, .int 10), (2, .int 21), (0, .ref 115)]) kc_67_53 rfl rfl (xm_lt ml_67 rfl) ?_
  refine xi_iinc (pc' := 57) (x := 10) (v := 11) (lv' := [(3, .int 11), (1, .int 0), (2, .int 21), (0, .ref 115)]) kc_67_54 rfl rfl rfl rfl (xm_lt ml_67 rfl) ?_
  refine xi_goto (pc' := 12) kc_67_57 rfl ?_
  refine xi_iload_n (pc' := 13) (x := 11) kc_67_12 rfl rfl ?_
  refine xi_iload_n (pc' := 14) (x := 21) kc_67_13 rfl rfl ?_
  refine xi_cmf (pc' := 17) kc_67_14 rfl rfl ?_
  refine xi_iload_n (pc' := 18) (x := 0) kc_67_17 rfl rfl ?_
  refine xi_aload_n (pc' := 19) (x := 115) kc_67_18 rfl rfl ?_
  refine xi_getfield (pc' := 22) (v := .ref 158) kc_67_19 rfl rfl rfl e115 rfl ?_
  refine xi_iload_n (pc' := 23) (x := 21) kc_67_22 rfl rfl ?_
  refine xi_iaload (pc' := 24) (v := 2) kc_67_23 rfl e158 (by decide) rfl (xi_in (n := 24) (by decide) (by decide)) rfl ?_
  refine xi_iconst (pc' := 25) (v := 1) kc_67_24 rfl rfl ?_
  refine xi_cmt (pc' := 51) kc_67_25 rfl rfl ?_
  refine xi_iconst (pc' := 52) (v := 0) kc_67_51 rfl rfl ?_
  refine xi_iadd (pc' := 53) (v := 0) kc_67_52 rfl rfl ?_
  refine xi_istore_n (pc' := 54) (lv' := [(1, .int 0), (3, .int 11), (2, .int 21), (0, .ref 115)]) kc_67_53 rfl rfl (xm_lt ml_67 rfl) ?_
  refine xi_iinc (pc' := 57) (x := 11) (v := 12) (lv' := [(3, .int 12), (1, .int 0), (2, .int 21), (0, .ref 115)]) kc_67_54 rfl rfl rfl rfl (xm_lt ml_67 rfl) ?_
  refine xi_goto (pc' := 12) kc_67_57 rfl ?_
  refine xi_iload_n (pc' := 13) (x := 12) kc_67_12 rfl rfl ?_
  refine xi_iload_n (pc' := 14) (x := 21) kc_67_13 rfl rfl ?_
  refine xi_cmf (pc' := 17) kc_67_14 rfl rfl ?_
  refine xi_iload_n (pc' := 18) (x := 0) kc_67_17 rfl rfl ?_
  refine xi_aload_n (pc' := 19) (x := 115) kc_67_18 rfl rfl ?_
  refine xi_getfield (pc' := 22) (v := .ref 158) kc_67_19 rfl rfl rfl e115 rfl ?_
  refine xi_iload_n (pc' := 23) (x := 21) kc_67_22 rfl rfl ?_
  refine xi_iaload (pc' := 24) (v := 2) kc_67_23 rfl e158 (by decide) rfl (xi_in (n := 24) (by decide) (by decide)) rfl ?_
  refine xi_iconst (pc' := 25) (v := 1) kc_67_24 rfl rfl ?_
  refine xi_cmt (pc' := 51) kc_67_25 rfl rfl ?_
  refine xi_iconst (pc' := 52) (v := 0) kc_67_51 rfl rfl ?_
  refine xi_iadd (pc' := 53) (v := 0) kc_67_52 rfl rfl ?_
  refine xi_istore_n (pc' := 54) (lv' := [(1, .int 0), (3, .int 12), (2, .int 21), (0, .ref 115)]) kc_67_53 rfl rfl (xm_lt ml_67 rfl) ?_
  refine xi_iinc (pc' := 57) (x := 12) (v := 13) (lv' := [(3, .int 13), (1, .int 0), (2, .int 21), (0, .ref 115)]) kc_67_54 rfl rfl rfl rfl (xm_lt ml_67 rfl) ?_
  refine xi_goto (pc' := 12) kc_67_57 rfl ?_
  refine xi_iload_n (pc' := 13) (x := 13) kc_67_12 rfl rfl ?_
  refine xi_iload_n (pc' := 14) (x := 21) kc_67_13 rfl rfl ?_
  refine xi_cmf (pc' := 17) kc_67_14 rfl rfl ?_
  refine xi_iload_n (pc' := 18) (x := 0) kc_67_17 rfl rfl ?_
  refine xi_aload_n (pc' := 19) (x := 115) kc_67_18 rfl rfl ?_
  refine xi_getfield (pc' := 22) (v := .ref 158) kc_67_19 rfl rfl rfl e115 rfl ?_
  refine xi_iload_n (pc' := 23) (x := 21) kc_67_22 rfl rfl ?_
  refine xi_iaload (pc' := 24) (v := 2) kc_67_23 rfl e158 (by decide) rfl (xi_in (n := 24) (by decide) (by decide)) rfl ?_
  refine xi_iconst (pc' := 25) (v := 1) kc_67_24 rfl rfl ?_
  refine xi_cmt (pc' := 51) kc_67_25 rfl rfl ?_
  refine xi_iconst (pc' := 52) (v := 0) kc_67_51 rfl rfl ?_
  refine xi_iadd (pc' := 53) (v := 0) kc_67_52 rfl rfl ?_
  refine xi_istore_n (pc' := 54) (lv' := [(1, .int 0), (3, .int 13), (2, .int 21), (0, .ref 115)]) kc_67_53 rfl rfl (xm_lt ml_67 rfl) ?_
  refine xi_iinc (pc' := 57) (x := 13) (v := 14) (lv' := [(3, .int 14), (1, .int 0), (2, .int 21), (0, .ref 115)]) kc_67_54 rfl rfl rfl rfl (xm_lt ml_67 rfl) ?_
  refine xi_goto (pc' := 12) kc_67_57 rfl ?_
  refine xi_iload_n (pc' := 13) (x := 14) kc_67_12 rfl rfl ?_
  refine xi_iload_n (pc' := 14) (x := 21) kc_67_13 rfl rfl ?_
  refine xi_cmf (pc' := 17) kc_67_14 rfl rfl ?_
  refine xi_iload_n (pc' := 18) (x := 0) kc_67_17 rfl rfl ?_
  refine xi_aload_n (pc' := 19) (x := 115) kc_67_18 rfl rfl ?_
  refine xi_getfield (pc' := 22) (v := .ref 158) kc_67_19 rfl rfl rfl e115 rfl ?_
  refine xi_iload_n (pc' := 23) (x := 21) kc_67_22 rfl rfl ?_
  refine xi_iaload (pc' := 24) (v := 2) kc_67_23 rfl e158 (by decide) rfl (xi_in (n := 24) (by decide) (by decide)) rfl ?_
  refine xi_iconst (pc' := 25) (v := 1) kc_67_24 rfl rfl ?_
  refine xi_cmt (pc' := 51) kc_67_25 rfl rfl ?_
  refine xi_iconst (pc' := 52) (v := 0) kc_67_51 rfl rfl ?_
  refine xi_iadd (pc' := 53) (v := 0) kc_67_52 rfl rfl ?_
  refine xi_istore_n (pc' := 54) (lv' := [(1, .int 0), (3, .int 14), (2, .int 21), (0, .ref 115)]) kc_67_53 rfl rfl (xm_lt ml_67 rfl) ?_
  refine xi_iinc (pc' := 57) (x := 14) (v := 15) (lv' := [(3, .int 15), (1, .int 0), (2, .int 21), (0, .ref 115)]) kc_67_54 rfl rfl rfl rfl (xm_lt ml_67 rfl) ?_
  refine xi_goto (pc' := 12) kc_67_57 rfl ?_
  refine xi_iload_n (pc' := 13) (x := 15) kc_67_12 rfl rfl ?_
  refine xi_iload_n (pc' := 14) (x := 21) kc_67_13 rfl rfl ?_
  refine xi_cmf (pc' := 17) kc_67_14 rfl rfl ?_
  refine xi_iload_n (pc' := 18) (x := 0) kc_67_17 rfl rfl ?_
  refine xi_aload_n (pc' := 19) (x := 115) kc_67_18 rfl rfl ?_
  refine xi_getfield (pc' := 22) (v := .ref 158) kc_67_19 rfl rfl rfl e115 rfl ?_
  refine xi_iload_n (pc' := 23) (x := 21) kc_67_22 rfl rfl ?_
  refine xi_iaload (pc' := 24) (v := 2) kc_67_23 rfl e158 (by decide) rfl (xi_in (n := 24) (by decide) (by decide)) rfl ?_
  refine xi_iconst (pc' := 25) (v := 1) kc_67_24 rfl rfl ?_
  refine xi_cmt (pc' := 51) kc_67_25 rfl rfl ?_
  refine xi_iconst (pc' := 52) (v := 0) kc_67_51 rfl rfl ?_
  refine xi_iadd (pc' := 53) (v := 0) kc_67_52 rfl rfl ?_
  refine xi_istore_n (pc' := 54) (lv' := [(1, .int 0), (3, .int 15), (2, .int 21), (0, .ref 115)]) kc_67_53 rfl rfl (xm_lt ml_67 rfl) ?_
  refine xi_iinc (pc' := 57) (x := 15) (v := 16) (lv' := [(3, .int 16), (1, .int 0), (2, .int 21), (0, .ref 115)]) kc_67_54 rfl rfl rfl rfl (xm_lt ml_67 rfl) ?_
  refine xi_goto (pc' := 12) kc_67_57 rfl ?_
  refine xi_iload_n (pc' := 13) (x := 16) kc_67_12 rfl rfl ?_
  refine xi_iload_n (pc' := 14) (x := 21) kc_67_13 rfl rfl ?_
  refine xi_cmf (pc' := 17) kc_67_14 rfl rfl ?_
  refine xi_iload_n (pc' := 18) (x := 0) kc_67_17 rfl rfl ?_
  refine xi_aload_n (pc' := 19) (x := 115) kc_67_18 rfl rfl ?_
  refine xi_getfield (pc' := 22) (v := .ref 158) kc_67_19 rfl rfl rfl e115 rfl ?_
  refine xi_iload_n (pc' := 23) (x := 21) kc_67_22 rfl rfl ?_
  refine xi_iaload (pc' := 24) (v := 2) kc_67_23 rfl e158 (by decide) rfl (xi_in (n := 24) (by decide) (by decide)) rfl ?_
  refine xi_iconst (pc' := 25) (v := 1) kc_67_24 rfl rfl ?_
  refine xi_cmt (pc' := 51) kc_67_25 rfl rfl ?_
  refine xi_iconst (pc' := 52) (v := 0) kc_67_51 rfl rfl ?_
  refine xi_iadd (pc' := 53) (v := 0) kc_67_52 rfl rfl ?_
  refine xi_istore_n (pc' := 54) (lv' := [(1, .int 0), (3, .int 16), (2, .int 21), (0, .ref 115)]) kc_67_53 rfl rfl (xm_lt ml_67 rfl) ?_
  refine xi_iinc (pc' := 57) (x := 16) (v := 17) (lv' := [(3, .int 17), (1, .int 0), (2, .int 21), (0, .ref 115)]) kc_67_54 rfl rfl rfl rfl (xm_lt ml_67 rfl) ?_
  refine xi_goto (pc' := 12) kc_67_57 rfl ?_
  refine xi_iload_n (pc' := 13) (x := 17) kc_67_12 rfl rfl ?_
  refine xi_iload_n (pc' := 14) (x := 21) kc_67_13 rfl rfl ?_
  refine xi_cmf (pc' := 17) kc_67_14 rfl rfl ?_
  refine xi_iload_n (pc' := 18) (x := 0) kc_67_17 rfl rfl ?_
  refine xi_aload_n (pc' := 19) (x := 115) kc_67_18 rfl rfl ?_
  refine xi_getfield (pc' := 22) (v := .ref 158) kc_67_19 rfl rfl rfl e115 rfl ?_
  refine xi_iload_n (pc' := 23) (x := 21) kc_67_22 rfl rfl ?_
  refine xi_iaload (pc' := 24) (v := 2) kc_67_23 rfl e158 (by decide) rfl (xi_in (n := 24) (by decide) (by decide)) rfl ?_
  refine xi_iconst (pc' := 25) (v := 1) kc_67_24 rfl rfl ?_
  refine xi_cmt (pc' := 51) kc_67_25 rfl rfl ?_
  refine xi_iconst (pc' := 52) (v := 0) kc_67_51 rfl rfl ?_
  refine xi_iadd (pc' := 53) (v := 0) kc_67_52 rfl rfl ?_
  refine xi_istore_n (pc' := 54) (lv' := [(1, .int 0), (3, .int 17), (2, .int 21), (0, .ref 115)]) kc_67_53 rfl rfl (xm_lt ml_67 rfl) ?_
  refine xi_iinc (pc' := 57) (x := 17) (v := 18) (lv' := [(3, .int 18), (1, .int 0), (2, .int 21), (0, .ref 115)]) kc_67_54 rfl rfl rfl rfl (xm_lt ml_67 rfl) ?_
  refine xi_goto (pc' := 12) kc_67_57 rfl ?_
  refine xi_iload_n (pc' := 13) (x := 18) kc_67_12 rfl rfl ?_
  refine xi_iload_n (pc' := 14) (x := 21) kc_67_13 rfl rfl ?_
  refine xi_cmf (pc' := 17) kc_67_14 rfl rfl ?_
  refine xi_iload_n (pc' := 18) (x := 0) kc_67_17 rfl rfl ?_
  refine xi_aload_n (pc' := 19) (x := 115) kc_67_18 rfl rfl ?_
  refine xi_getfield (pc' := 22) (v := .ref 158) kc_67_19 rfl rfl rfl e115 rfl ?_
  refine xi_iload_n (pc' := 23) (x := 21) kc_67_22 rfl rfl ?_
  refine xi_iaload (pc' := 24) (v := 2) kc_67_23 rfl e158 (by decide) rfl (xi_in (n := 24) (by decide) (by decide)) rfl ?_
  refine xi_iconst (pc' := 25) (v := 1) kc_67_24 rfl rfl ?_
  refine xi_cmt (pc' := 51) kc_67_25 rfl rfl ?_
  refine xi_iconst (pc' := 52) (v := 0) kc_67_51 rfl rfl ?_
  refine xi_iadd (pc' := 53) (v := 0) kc_67_52 rfl rfl ?_
  refine xi_istore_n (pc' := 54) (lv' := [(1, .int 0), (3, .int 18), (2, .int 21), (0, .ref 115)]) kc_67_53 rfl rfl (xm_lt ml_67 rfl) ?_
  refine xi_iinc (pc' := 57) (x := 18) (v := 19) (lv' := [(3, .int 19), (1, .int 0), (2, .int 21), (0, .ref 115)]) kc_67_54 rfl rfl rfl rfl (xm_lt ml_67 rfl) ?_
  refine xi_goto (pc' := 12) kc_67_57 rfl ?_
  refine xi_iload_n (pc' := 13) (x := 19) kc_67_12 rfl rfl ?_
  refine xi_iload_n (pc' := 14) (x := 21) kc_67_13 rfl rfl ?_
  refine xi_cmf (pc' := 17) kc_67_14 rfl rfl ?_
  refine xi_iload_n (pc' := 18) (x := 0) kc_67_17 rfl rfl ?_
  refine xi_aload_n (pc' := 19) (x := 115) kc_67_18 rfl rfl ?_
  refine xi_getfield (pc' := 22) (v := .ref 158) kc_67_19 rfl rfl rfl e115 rfl ?_
  refine xi_iload_n (pc' := 23) (x := 21) kc_67_22 rfl rfl ?_
  refine xi_iaload (pc' := 24) (v := 2) kc_67_23 rfl e158 (by decide) rfl (xi_in (n := 24) (by decide) (by decide)) rfl ?_
  refine xi_iconst (pc' := 25) (v := 1) kc_67_24 rfl rfl ?_
  refine xi_cmt (pc' := 51) kc_67_25 rfl rfl ?_
  refine xi_iconst (pc' := 52) (v := 0) kc_67_51 rfl rfl ?_
  refine xi_iadd (pc' := 53) (v := 0) kc_67_52 rfl rfl ?_
  refine xi_istore_n (pc' := 54) (lv' := [(1, .int 0), (3, .int 19), (2, .int 21), (0, .ref 115)]) kc_67_53 rfl rfl (xm_lt ml_67 rfl) ?_
  refine xi_iinc (pc' := 57) (x := 19) (v := 20) (lv' := [(3, .int 20), (1, .int 0), (2, .int 21), (0, .ref 115)]) kc_67_54 rfl rfl rfl rfl (xm_lt ml_67 rfl) ?_
  refine xi_goto (pc' := 12) kc_67_57 rfl ?_
  refine xi_iload_n (pc' := 13) (x := 20) kc_67_12 rfl rfl ?_
  refine xi_iload_n (pc' := 14) (x := 21) kc_67_13 rfl rfl ?_
  refine xi_cmf (pc' := 17) kc_67_14 rfl rfl ?_
  refine xi_iload_n (pc' := 18) (x := 0) kc_67_17 rfl rfl ?_
  refine xi_aload_n (pc' := 19) (x := 115) kc_67_18 rfl rfl ?_
  refine xi_getfield (pc' := 22) (v := .ref 158) kc_67_19 rfl rfl rfl e115 rfl ?_
  refine xi_iload_n (pc' := 23) (x := 21) kc_67_22 rfl rfl ?_
  refine xi_iaload (pc' := 24) (v := 2) kc_67_23 rfl e158 (by decide) rfl (xi_in (n := 24) (by decide) (by decide)) rfl ?_
  refine xi_iconst (pc' := 25) (v := 1) kc_67_24 rfl rfl ?_
  refine xi_cmt (pc' := 51) kc_67_25 rfl rfl ?_
  refine xi_iconst (pc' := 52) (v := 0) kc_67_51 rfl rfl ?_
  refine xi_iadd (pc' := 53) (v := 0) kc_67_52 rfl rfl ?_
  refine xi_istore_n (pc' := 54) (lv' := [(1, .int 0), (3, .int 20), (2, .int 21), (0, .ref 115)]) kc_67_53 rfl rfl (xm_lt ml_67 rfl) ?_
  refine xi_iinc (pc' := 57) (x := 20) (v := 21) (lv' := [(3, .int 21), (1, .int 0), (2, .int 21), (0, .ref 115)]) kc_67_54 rfl rfl rfl rfl (xm_lt ml_67 rfl) ?_
  refine xi_goto (pc' := 12) kc_67_57 rfl ?_
  refine xi_iload_n (pc' := 13) (x := 21) kc_67_12 rfl rfl ?_
  refine xi_iload_n (pc' := 14) (x := 21) kc_67_13 rfl rfl ?_
  refine xi_cmt (pc' := 60) kc_67_14 rfl rfl ?_
  refine xi_iinc (pc' := 63) (x := 21) (v := 22) (lv' := [(2, .int 22), (3, .int 21), (1, .int 0), (0, .ref 115)]) kc_67_60 rfl rfl rfl rfl (xm_lt ml_67 rfl) ?_
  refine xi_goto (pc' := 4) kc_67_63 rfl ?_
  refine xi_iload_n (pc' := 5) (x := 22) kc_67_4 rfl rfl ?_
  refine xi_bipush (pc' := 7) (v := 24) kc_67_5 rfl rfl ?_
  refine xi_cmf (pc' := 10) kc_67_7 rfl rfl ?_
  refine xi_iconst (pc' := 11) (v := 0) kc_67_10 rfl rfl ?_
  refine xi_istore_n (pc' := 12) (lv' := [(3, .int 0), (2, .int 22), (1, .int 0), (0, .ref 115)]) kc_67_11 rfl rfl (xm_lt ml_67 rfl) ?_
  refine xi_iload_n (pc' := 13) (x := 0) kc_67_12 rfl rfl ?_
  refine xi_iload_n (pc' := 14) (x := 22) kc_67_13 rfl rfl ?_
  refine xi_cmf (pc' := 17) kc_67_14 rfl rfl ?_
  refine xi_iload_n (pc' := 18) (x := 0) kc_67_17 rfl rfl ?_
  refine xi_aload_n (pc' := 19) (x := 115) kc_67_18 rfl rfl ?_
  refine xi_getfield (pc' := 22) (v := .ref 158) kc_67_19 rfl rfl rfl e115 rfl ?_
  refine xi_iload_n (pc' := 23) (x := 22) kc_67_22 rfl rfl ?_
  refine xi_iaload (pc' := 24) (v := 2) kc_67_23 rfl e158 (by decide) rfl (xi_in (n := 24) (by decide) (by decide)) rfl ?_
  refine xi_iconst (pc' := 25) (v := 1) kc_67_24 rfl rfl ?_
  refine xi_cmt (pc' := 51) kc_67_25 rfl rfl ?_
  refine xi_iconst (pc' := 52) (v := 0) kc_67_51 rfl rfl ?_
  refine xi_iadd (pc' := 53) (v := 0) kc_67_52 rfl rfl ?_
  refine xi_istore_n (pc' := 54) (lv' := [(1, .int 0), (3, .int 0), (2, .int 22), (0, .ref 115)]) kc_67_53 rfl rfl (xm_lt ml_67 rfl) ?_
  refine xi_iinc (pc' := 57) (x := 0) (v := 1) (lv' := [(3, .int 1), (1, .int 0), (2, .int 22), (0, .ref 115)]) kc_67_54 rfl rfl rfl rfl (xm_lt ml_67 rfl) ?_
  refine xi_goto (pc' := 12) kc_67_57 rfl ?_
  refine xi_iload_n (pc' := 13) (x := 1) kc_67_12 rfl rfl ?_
  refine xi_iload_n (pc' := 14) (x := 22) kc_67_13 rfl rfl ?_
  refine xi_cmf (pc' := 17) kc_67_14 rfl rfl ?_
  refine xi_iload_n (pc' := 18) (x := 0) kc_67_17 rfl rfl ?_
  refine xi_aload_n (pc' := 19) (x := 115) kc_67_18 rfl rfl ?_
  refine xi_getfield (pc' := 22) (v := .ref 158) kc_67_19 rfl rfl rfl e115 rfl ?_
  refine xi_iload_n (pc' := 23) (x := 22) kc_67_22 rfl rfl ?_
  refine xi_iaload (pc' := 24) (v := 2) kc_67_23 rfl e158 (by decide) rfl (xi_in (n := 24) (by decide) (by decide)) rfl ?_
  refine xi_iconst (pc' := 25) (v := 1) kc_67_24 rfl rfl ?_
  refine xi_cmt (pc' := 51) kc_67_25 rfl rfl ?_
  refine xi_iconst (pc' := 52) (v := 0) kc_67_51 rfl rfl ?_
  refine xi_iadd (pc' := 53) (v := 0) kc_67_52 rfl rfl ?_
  refine xi_istore_n (pc' := 54) (lv' := [(1, .int 0), (3, .int 1), (2, .int 22), (0, .ref 115)]) kc_67_53 rfl rfl (xm_lt ml_67 rfl) ?_
  refine xi_iinc (pc' := 57) (x := 1) (v := 2) (lv' := [(3, .int 2), (1, .int 0), (2, .int 22), (0, .ref 115)]) kc_67_54 rfl rfl rfl rfl (xm_lt ml_67 rfl) ?_
  refine xi_goto (pc' := 12) kc_67_57 rfl ?_
  refine xi_iload_n (pc' := 13) (x := 2) kc_67_12 rfl rfl ?_
  refine xi_iload_n (pc' := 14) (x := 22) kc_67_13 rfl rfl ?_
  refine xi_cmf (pc' := 17) kc_67_14 rfl rfl ?_
  refine xi_iload_n (pc' := 18) (x := 0) kc_67_17 rfl rfl ?_
  refine xi_aload_n (pc' := 19) (x := 115) kc_67_18 rfl rfl ?_
  refine xi_getfield (pc' := 22) (v := .ref 158) kc_67_19 rfl rfl rfl e115 rfl ?_
  refine xi_iload_n (pc' := 23) (x := 22) kc_67_22 rfl rfl ?_
  refine xi_iaload (pc' := 24) (v := 2) kc_67_23 rfl e158 (by decide) rfl (xi_in (n := 24) (by decide) (by decide)) rfl ?_
  refine xi_iconst (pc' := 25) (v := 1) kc_67_24 rfl rfl ?_
  refine xi_cmt (pc' := 51) kc_67_25 rfl rfl ?_
  refine xi_iconst (pc' := 52) (v := 0) kc_67_51 rfl rfl ?_
  refine xi_iadd (pc' := 53) (v := 0) kc_67_52 rfl rfl ?_
  refine xi_istore_n (pc' := 54) (lv' := [(1, .int 0), (3, .int 2), (2, .int 22), (0, .ref 115)]) kc_67_53 rfl rfl (xm_lt ml_67 rfl) ?_
  refine xi_iinc (pc' := 57) (x := 2) (v := 3) (lv' := [(3, .int 3), (1, .int 0), (2, .int 22), (0, .ref 115)]) kc_67_54 rfl rfl rfl rfl (xm_lt ml_67 rfl) ?_
  refine xi_goto (pc' := 12) kc_67_57 rfl ?_
  refine xi_iload_n (pc' := 13) (x := 3) kc_67_12 rfl rfl ?_
  refine xi_iload_n (pc' := 14) (x := 22) kc_67_13 rfl rfl ?_
  refine xi_cmf (pc' := 17) kc_67_14 rfl rfl ?_
  refine xi_iload_n (pc' := 18) (x := 0) kc_67_17 rfl rfl ?_
  refine xi_aload_n (pc' := 19) (x := 115) kc_67_18 rfl rfl ?_
  refine xi_getfield (pc' := 22) (v := .ref 158) kc_67_19 rfl rfl rfl e115 rfl ?_
  refine xi_iload_n (pc' := 23) (x := 22) kc_67_22 rfl rfl ?_
  refine xi_iaload (pc' := 24) (v := 2) kc_67_23 rfl e158 (by decide) rfl (xi_in (n := 24) (by decide) (by decide)) rfl ?_
  refine xi_iconst (pc' := 25) (v := 1) kc_67_24 rfl rfl ?_
  refine xi_cmt (pc' := 51) kc_67_25 rfl rfl ?_
  refine xi_iconst (pc' := 52) (v := 0) kc_67_51 rfl rfl ?_
  refine xi_iadd (pc' := 53) (v := 0) kc_67_52 rfl rfl ?_
  refine xi_istore_n (pc' := 54) (lv' := [(1, .int 0), (3, .int 3), (2, .int 22), (0, .ref 115)]) kc_67_53 rfl rfl (xm_lt ml_67 rfl) ?_
  refine xi_iinc (pc' := 57) (x := 3) (v := 4) (lv' := [(3, .int 4), (1, .int 0), (2, .int 22), (0, .ref 115)]) kc_67_54 rfl rfl rfl rfl (xm_lt ml_67 rfl) ?_
  refine xi_goto (pc' := 12) kc_67_57 rfl ?_
  refine xi_iload_n (pc' := 13) (x := 4) kc_67_12 rfl rfl ?_
  refine xi_iload_n (pc' := 14) (x := 22) kc_67_13 rfl rfl ?_
  refine xi_cmf (pc' := 17) kc_67_14 rfl rfl ?_
  refine xi_iload_n (pc' := 18) (x := 0) kc_67_17 rfl rfl ?_
  refine xi_aload_n (pc' := 19) (x := 115) kc_67_18 rfl rfl ?_
  refine xi_getfield (pc' := 22) (v := .ref 158) kc_67_19 rfl rfl rfl e115 rfl ?_
  refine xi_iload_n (pc' := 23) (x := 22) kc_67_22 rfl rfl ?_
  refine xi_iaload (pc' := 24) (v := 2) kc_67_23 rfl e158 (by decide) rfl (xi_in (n := 24) (by decide) (by decide)) rfl ?_
  refine xi_iconst (pc' := 25) (v := 1) kc_67_24 rfl rfl ?_
  refine xi_cmt (pc' := 51) kc_67_25 rfl rfl ?_
  refine xi_iconst (pc' := 52) (v := 0) kc_67_51 rfl rfl ?_
  refine xi_iadd (pc' := 53) (v := 0) kc_67_52 rfl rfl ?_
  refine xi_istore_n (pc' := 54) (lv' := [(1, .int 0), (3, .int 4), (2, .int 22), (0, .ref 115)]) kc_67_53 rfl rfl (xm_lt ml_67 rfl) ?_
  refine xi_iinc (pc' := 57) (x := 4) (v := 5) (lv' := [(3, .int 5), (1, .int 0), (2, .int 22), (0, .ref 115)]) kc_67_54 rfl rfl rfl rfl (xm_lt ml_67 rfl) ?_
  refine xi_goto (pc' := 12) kc_67_57 rfl ?_
  refine xi_iload_n (pc' := 13) (x := 5) kc_67_12 rfl rfl ?_
  refine xi_iload_n (pc' := 14) (x := 22) kc_67_13 rfl rfl ?_
  refine xi_cmf (pc' := 17) kc_67_14 rfl rfl ?_
  refine xi_iload_n (pc' := 18) (x := 0) kc_67_17 rfl rfl ?_
  refine xi_aload_n (pc' := 19) (x := 115) kc_67_18 rfl rfl ?_
  refine xi_getfield (pc' := 22) (v := .ref 158) kc_67_19 rfl rfl rfl e115 rfl ?_
  refine xi_iload_n (pc' := 23) (x := 22) kc_67_22 rfl rfl ?_
  refine xi_iaload (pc' := 24) (v := 2) kc_67_23 rfl e158 (by decide) rfl (xi_in (n := 24) (by decide) (by decide)) rfl ?_
  refine xi_iconst (pc' := 25) (v := 1) kc_67_24 rfl rfl ?_
  refine xi_cmt (pc' := 51) kc_67_25 rfl rfl ?_
  refine xi_iconst (pc' := 52) (v := 0) kc_67_51 rfl rfl ?_
  refine xi_iadd (pc' := 53) (v := 0) kc_67_52 rfl rfl ?_
  refine xi_istore_n (pc' := 54) (lv' := [(1, .int 0), (3, .int 5), (2, .int 22), (0, .ref 115)]) kc_67_53 rfl rfl (xm_lt ml_67 rfl) ?_
  refine xi_iinc (pc' := 57) (x := 5) (v := 6) (lv' := [(3, .int 6), (1, .int 0), (2, .int 22), (0, .ref 115)]) kc_67_54 rfl rfl rfl rfl (xm_lt ml_67 rfl) ?_
  refine xi_goto (pc' := 12) kc_67_57 rfl ?_
  refine xi_iload_n (pc' := 13) (x := 6) kc_67_12 rfl rfl ?_
  refine xi_iload_n (pc' := 14) (x := 22) kc_67_13 rfl rfl ?_
  refine xi_cmf (pc' := 17) kc_67_14 rfl rfl ?_
  refine xi_iload_n (pc' := 18) (x := 0) kc_67_17 rfl rfl ?_
  refine xi_aload_n (pc' := 19) (x := 115) kc_67_18 rfl rfl ?_
  refine xi_getfield (pc' := 22) (v := .ref 158) kc_67_19 rfl rfl rfl e115 rfl ?_
  refine xi_iload_n (pc' := 23) (x := 22) kc_67_22 rfl rfl ?_
  refine xi_iaload (pc' := 24) (v := 2) kc_67_23 rfl e158 (by decide) rfl (xi_in (n := 24) (by decide) (by decide)) rfl ?_
  refine xi_iconst (pc' := 25) (v := 1) kc_67_24 rfl rfl ?_
  refine xi_cmt (pc' := 51) kc_67_25 rfl rfl ?_
  refine xi_iconst (pc' := 52) (v := 0) kc_67_51 rfl rfl ?_
  refine xi_iadd (pc' := 53) (v := 0) kc_67_52 rfl rfl ?_
  refine xi_istore_n (pc' := 54) (lv' := [(1, .int 0), (3, .int 6), (2, .int 22), (0, .ref 115)]) kc_67_53 rfl rfl (xm_lt ml_67 rfl) ?_
  refine xi_iinc (pc' := 57) (x := 6) (v := 7) (lv' := [(3, .int 7), (1, .int 0), (2, .int 22), (0, .ref 115)]) kc_67_54 rfl rfl rfl rfl (xm_lt ml_67 rfl) ?_
  refine xi_goto (pc' := 12) kc_67_57 rfl ?_
  refine xi_iload_n (pc' := 13) (x := 7) kc_67_12 rfl rfl ?_
  refine xi_iload_n (pc' := 14) (x := 22) kc_67_13 rfl rfl ?_
  refine xi_cmf (pc' := 17) kc_67_14 rfl rfl ?_
  refine xi_iload_n (pc' := 18) (x := 0) kc_67_17 rfl rfl ?_
  refine xi_aload_n (pc' := 19) (x := 115) kc_67_18 rfl rfl ?_
  refine xi_getfield (pc' := 22) (v := .ref 158) kc_67_19 rfl rfl rfl e115 rfl ?_
  refine xi_iload_n (pc' := 23) (x := 22) kc_67_22 rfl rfl ?_
  refine xi_iaload (pc' := 24) (v := 2) kc_67_23 rfl e158 (by decide) rfl (xi_in (n := 24) (by decide) (by decide)) rfl ?_
  refine xi_iconst (pc' := 25) (v := 1) kc_67_24 rfl rfl ?_
  refine xi_cmt (pc' := 51) kc_67_25 rfl rfl ?_
  refine xi_iconst (pc' := 52) (v := 0) kc_67_51 rfl rfl ?_
  refine xi_iadd (pc' := 53) (v := 0) kc_67_52 rfl rfl ?_
  refine xi_istore_n (pc' := 54) (lv' := [(1, .int 0), (3, .int 7), (2, .int 22), (0, .ref 115)]) kc_67_53 rfl rfl (xm_lt ml_67 rfl) ?_
  refine xi_iinc (pc' := 57) (x := 7) (v := 8) (lv' := [(3, .int 8), (1, .int 0), (2, .int 22), (0, .ref 115)]) kc_67_54 rfl rfl rfl rfl (xm_lt ml_67 rfl) ?_
  refine xi_goto (pc' := 12) kc_67_57 rfl ?_
  refine xi_iload_n (pc' := 13) (x := 8) kc_67_12 rfl rfl ?_
  refine xi_iload_n (pc' := 14) (x := 22) kc_67_13 rfl rfl ?_
  refine xi_cmf (pc' := 17) kc_67_14 rfl rfl ?_
  refine xi_iload_n (pc' := 18) (x := 0) kc_67_17 rfl rfl ?_
  refine xi_aload_n (pc' := 19) (x := 115) kc_67_18 rfl rfl ?_
  refine xi_getfield (pc' := 22) (v := .ref 158) kc_67_19 rfl rfl rfl e115 rfl ?_
  refine xi_iload_n (pc' := 23) (x := 22) kc_67_22 rfl rfl ?_
  refine xi_iaload (pc' := 24) (v := 2) kc_67_23 rfl e158 (by decide) rfl (xi_in (n := 24) (by decide) (by decide)) rfl ?_
  refine xi_iconst (pc' := 25) (v := 1) kc_67_24 rfl rfl ?_
  refine xi_cmt (pc' := 51) kc_67_25 rfl rfl ?_
  refine xi_iconst (pc' := 52) (v := 0) kc_67_51 rfl rfl ?_
  refine xi_iadd (pc' := 53) (v := 0) kc_67_52 rfl rfl ?_
  refine xi_istore_n (pc' := 54) (lv' := [(1, .int 0), (3, .int 8), (2, .int 22), (0, .ref 115)]) kc_67_53 rfl rfl (xm_lt ml_67 rfl) ?_
  refine xi_iinc (pc' := 57) (x := 8) (v := 9) (lv' := [(3, .int 9), (1, .int 0), (2, .int 22), (0, .ref 115)]) kc_67_54 rfl rfl rfl rfl (xm_lt ml_67 rfl) ?_
  refine xi_goto (pc' := 12) kc_67_57 rfl ?_
  refine xi_iload_n (pc' := 13) (x := 9) kc_67_12 rfl rfl ?_
  refine xi_iload_n (pc' := 14) (x := 22) kc_67_13 rfl rfl ?_
  refine xi_cmf (pc' := 17) kc_67_14 rfl rfl ?_
  refine xi_iload_n (pc' := 18) (x := 0) kc_67_17 rfl rfl ?_
  refine xi_aload_n (pc' := 19) (x := 115) kc_67_18 rfl rfl ?_
  refine xi_getfield (pc' := 22) (v := .ref 158) kc_67_19 rfl rfl rfl e115 rfl ?_
  refine xi_iload_n (pc' := 23) (x := 22) kc_67_22 rfl rfl ?_
  refine xi_iaload (pc' := 24) (v := 2) kc_67_23 rfl e158 (by decide) rfl (xi_in (n := 24) (by decide) (by decide)) rfl ?_
  refine xi_iconst (pc' := 25) (v := 1) kc_67_24 rfl rfl ?_
  refine xi_cmt (pc' := 51) kc_67_25 rfl rfl ?_
  refine xi_iconst (pc' := 52) (v := 0) kc_67_51 rfl rfl ?_
  refine xi_iadd (pc' := 53) (v := 0) kc_67_52 rfl rfl ?_
  refine xi_istore_n (pc' := 54) (lv' := [(1, .int 0), (3, .int 9), (2, .int 22), (0, .ref 115)]) kc_67_53 rfl rfl (xm_lt ml_67 rfl) ?_
  refine xi_iinc (pc' := 57) (x := 9) (v := 10) (lv' := [(3, .int 10), (1, .int 0), (2, .int 22), (0, .ref 115)]) kc_67_54 rfl rfl rfl rfl (xm_lt ml_67 rfl) ?_
  refine xi_goto (pc' := 12) kc_67_57 rfl ?_
  refine xi_iload_n (pc' := 13) (x := 10) kc_67_12 rfl rfl ?_
  refine xi_iload_n (pc' := 14) (x := 22) kc_67_13 rfl rfl ?_
  refine xi_cmf (pc' := 17) kc_67_14 rfl rfl ?_
  refine xi_iload_n (pc' := 18) (x := 0) kc_67_17 rfl rfl ?_
  refine xi_aload_n (pc' := 19) (x := 115) kc_67_18 rfl rfl ?_
  refine xi_getfield (pc' := 22) (v := .ref 158) kc_67_19 rfl rfl rfl e115 rfl ?_
  refine xi_iload_n (pc' := 23) (x := 22) kc_67_22 rfl rfl ?_
  refine xi_iaload (pc' := 24) (v := 2) kc_67_23 rfl e158 (by decide) rfl (xi_in (n := 24) (by decide) (by decide)) rfl ?_
  refine xi_iconst (pc' := 25) (v := 1) kc_67_24 rfl rfl ?_
  refine xi_cmt (pc' := 51) kc_67_25 rfl rfl ?_
  refine xi_iconst (pc' := 52) (v := 0) kc_67_51 rfl rfl ?_
  refine xi_iadd (pc' := 53) (v := 0) kc_67_52 rfl rfl ?_
  refine xi_istore_n (pc' := 54) (lv' := [(1, .int 0), (3, .int 10), (2, .int 22), (0, .ref 115)]) kc_67_53 rfl rfl (xm_lt ml_67 rfl) ?_
  refine xi_iinc (pc' := 57) (x := 10) (v := 11) (lv' := [(3, .int 11), (1, .int 0), (2, .int 22), (0, .ref 115)]) kc_67_54 rfl rfl rfl rfl (xm_lt ml_67 rfl) ?_
  refine xi_goto (pc' := 12) kc_67_57 rfl ?_
  refine xi_iload_n (pc' := 13) (x := 11) kc_67_12 rfl rfl ?_
  refine xi_iload_n (pc' := 14) (x := 22) kc_67_13 rfl rfl ?_
  refine xi_cmf (pc' := 17) kc_67_14 rfl rfl ?_
  refine xi_iload_n (pc' := 18) (x := 0) kc_67_17 rfl rfl ?_
  refine xi_aload_n (pc' := 19) (x := 115) kc_67_18 rfl rfl ?_
  refine xi_getfield (pc' := 22) (v := .ref 158) kc_67_19 rfl rfl rfl e115 rfl ?_
  refine xi_iload_n (pc' := 23) (x := 22) kc_67_22 rfl rfl ?_
  refine xi_iaload (pc' := 24) (v := 2) kc_67_23 rfl e158 (by decide) rfl (xi_in (n := 24) (by decide) (by decide)) rfl ?_
  refine xi_iconst (pc' := 25) (v := 1) kc_67_24 rfl rfl ?_
  refine xi_cmt (pc' := 51) kc_67_25 rfl rfl ?_
  refine xi_iconst (pc' := 52) (v := 0) kc_67_51 rfl rfl ?_
  refine xi_iadd (pc' := 53) (v := 0) kc_67_52 rfl rfl ?_
  refine xi_istore_n (pc' := 54) (lv' := [(1, .int 0), (3, .int 11), (2, .int 22), (0, .ref 115)]) kc_67_53 rfl rfl (xm_lt ml_67 rfl) ?_
  refine xi_iinc (pc' := 57) (x := 11) (v := 12) (lv' := [(3, .int 12), (1, .int 0), (2, .int 22), (0, .ref 115)]) kc_67_54 rfl rfl rfl rfl (xm_lt ml_67 rfl) ?_
  refine xi_goto (pc' := 12) kc_67_57 rfl ?_
  refine xi_iload_n (pc' := 13) (x := 12) kc_67_12 rfl rfl ?_
  refine xi_iload_n (pc' := 14) (x := 22) kc_67_13 rfl rfl ?_
  refine xi_cmf (pc' := 17) kc_67_14 rfl rfl ?_
  refine xi_iload_n (pc' := 18) (x := 0) kc_67_17 rfl rfl ?_
  refine xi_aload_n (pc' := 19) (x := 115) kc_67_18 rfl rfl ?_
  refine xi_getfield (pc' := 22) (v := .ref 158) kc_67_19 rfl rfl rfl e115 rfl ?_
  refine xi_iload_n (pc' := 23) (x := 22) kc_67_22 rfl rfl ?_
  refine xi_iaload (pc' := 24) (v := 2) kc_67_23 rfl e158 (by decide) rfl (xi_in (n := 24) (by decide) (by decide)) rfl ?_
  refine xi_iconst (pc' := 25) (v := 1) kc_67_24 rfl rfl ?_
  refine xi_cmt (pc' := 51) kc_67_25 rfl rfl ?_
  refine xi_iconst (pc' := 52) (v := 0) kc_67_51 rfl rfl ?_
  refine xi_iadd (pc' := 53) (v := 0) kc_67_52 rfl rfl ?_
  refine xi_istore_n (pc' := 54) (lv' := [(1, .int 0), (3, .int 12), (2, .int 22), (0, .ref 115)]) kc_67_53 rfl rfl (xm_lt ml_67 rfl) ?_
  refine xi_iinc (pc' := 57) (x := 12) (v := 13) (lv' := [(3, .int 13), (1, .int 0), (2, .int 22), (0, .ref 115)]) kc_67_54 rfl rfl rfl rfl (xm_lt ml_67 rfl) ?_
  refine xi_goto (pc' := 12) kc_67_57 rfl ?_
  refine xi_iload_n (pc' := 13) (x := 13) kc_67_12 rfl rfl ?_
  refine xi_iload_n (pc' := 14) (x := 22) kc_67_13 rfl rfl ?_
  refine xi_cmf (pc' := 17) kc_67_14 rfl rfl ?_
  refine xi_iload_n (pc' := 18) (x := 0) kc_67_17 rfl rfl ?_
  refine xi_aload_n (pc' := 19) (x := 115) kc_67_18 rfl rfl ?_
  refine xi_getfield (pc' := 22) (v := .ref 158) kc_67_19 rfl rfl rfl e115 rfl ?_
  refine xi_iload_n (pc' := 23) (x := 22) kc_67_22 rfl rfl ?_
  refine xi_iaload (pc' := 24) (v := 2) kc_67_23 rfl e158 (by decide) rfl (xi_in (n := 24) (by decide) (by decide)) rfl ?_
  refine xi_iconst (pc' := 25) (v := 1) kc_67_24 rfl rfl ?_
  refine xi_cmt (pc' := 51) kc_67_25 rfl rfl ?_
  refine xi_iconst (pc' := 52) (v := 0) kc_67_51 rfl rfl ?_
  refine xi_iadd (pc' := 53) (v := 0) kc_67_52 rfl rfl ?_
  refine xi_istore_n (pc' := 54) (lv' := [(1, .int 0), (3, .int 13), (2, .int 22), (0, .ref 115)]) kc_67_53 rfl rfl (xm_lt ml_67 rfl) ?_
  refine xi_iinc (pc' := 57) (x := 13) (v := 14) (lv' := [(3, .int 14), (1, .int 0), (2, .int 22), (0, .ref 115)]) kc_67_54 rfl rfl rfl rfl (xm_lt ml_67 rfl) ?_
  refine xi_goto (pc' := 12) kc_67_57 rfl ?_
  refine xi_iload_n (pc' := 13) (x := 14) kc_67_12 rfl rfl ?_
  refine xi_iload_n (pc' := 14) (x := 22) kc_67_13 rfl rfl ?_
  refine xi_cmf (pc' := 17) kc_67_14 rfl rfl ?_
  refine xi_iload_n (pc' := 18) (x := 0) kc_67_17 rfl rfl ?_
  refine xi_aload_n (pc' := 19) (x := 115) kc_67_18 rfl rfl ?_
  refine xi_getfield (pc' := 22) (v := .ref 158) kc_67_19 rfl rfl rfl e115 rfl ?_
  refine xi_iload_n (pc' := 23) (x := 22) kc_67_22 rfl rfl ?_
  refine xi_iaload (pc' := 24) (v := 2) kc_67_23 rfl e158 (by decide) rfl (xi_in (n := 24) (by decide) (by decide)) rfl ?_
  refine xi_iconst (pc' := 25) (v := 1) kc_67_24 rfl rfl ?_
  refine xi_cmt (pc' := 51) kc_67_25 rfl rfl ?_
  refine xi_iconst (pc' := 52) (v := 0) kc_67_51 rfl rfl ?_
  refine xi_iadd (pc' := 53) (v := 0) kc_67_52 rfl rfl ?_
  refine xi_istore_n (pc' := 54) (lv' := [(1, .int 0), (3, .int 14), (2, .int 22), (0, .ref 115)]) kc_67_53 rfl rfl (xm_lt ml_67 rfl) ?_
  refine xi_iinc (pc' := 57) (x := 14) (v := 15) (lv' := [(3, .int 15), (1, .int 0), (2, .int 22), (0, .ref 115)]) kc_67_54 rfl rfl rfl rfl (xm_lt ml_67 rfl) ?_
  refine xi_goto (pc' := 12) kc_67_57 rfl ?_
  refine xi_iload_n (pc' := 13) (x := 15) kc_67_12 rfl rfl ?_
  refine xi_iload_n (pc' := 14) (x := 22) kc_67_13 rfl rfl ?_
  refine xi_cmf (pc' := 17) kc_67_14 rfl rfl ?_
  refine xi_iload_n (pc' := 18) (x := 0) kc_67_17 rfl rfl ?_
  refine xi_aload_n (pc' := 19) (x := 115) kc_67_18 rfl rfl ?_
  refine xi_getfield (pc' := 22) (v := .ref 158) kc_67_19 rfl rfl rfl e115 rfl ?_
  refine xi_iload_n (pc' := 23) (x := 22) kc_67_22 rfl rfl ?_
  refine xi_iaload (pc' := 24) (v := 2) kc_67_23 rfl e158 (by decide) rfl (xi_in (n := 24) (by decide) (by decide)) rfl ?_
  refine xi_iconst (pc' := 25) (v := 1) kc_67_24 rfl rfl ?_
  refine xi_cmt (pc' := 51) kc_67_25 rfl rfl ?_
  refine xi_iconst (pc' := 52) (v := 0) kc_67_51 rfl rfl ?_
  refine xi_iadd (pc' := 53) (v := 0) kc_67_52 rfl rfl ?_
  refine xi_istore_n (pc' := 54) (lv' := [(1, .int 0), (3, .int 15), (2, .int 22), (0, .ref 115)]) kc_67_53 rfl rfl (xm_lt ml_67 rfl) ?_
  refine xi_iinc (pc' := 57) (x := 15) (v := 16) (lv' := [(3, .int 16), (1, .int 0), (2, .int 22), (0, .ref 115)]) kc_67_54 rfl rfl rfl rfl (xm_lt ml_67 rfl) ?_
  refine xi_goto (pc' := 12) kc_67_57 rfl ?_
  refine xi_iload_n (pc' := 13) (x := 16) kc_67_12 rfl rfl ?_
  refine xi_iload_n (pc' := 14) (x := 22) kc_67_13 rfl rfl ?_
  refine xi_cmf (pc' := 17) kc_67_14 rfl rfl ?_
  refine xi_iload_n (pc' := 18) (x := 0) kc_67_17 rfl rfl ?_
  refine xi_aload_n (pc' := 19) (x := 115) kc_67_18 rfl rfl ?_
  refine xi_getfield (pc' := 22) (v := .ref 158) kc_67_19 rfl rfl rfl e115 rfl ?_
  refine xi_iload_n (pc' := 23) (x := 22) kc_67_22 rfl rfl ?_
  refine xi_iaload (pc' := 24) (v := 2) kc_67_23 rfl e158 (by decide) rfl (xi_in (n := 24) (by decide) (by decide)) rfl ?_
  refine xi_iconst (pc' := 25) (v := 1) kc_67_24 rfl rfl ?_
  refine xi_cmt (pc' := 51) kc_67_25 rfl rfl ?_
  refine xi_iconst (pc' := 52) (v := 0) kc_67_51 rfl rfl ?_
  refine xi_iadd (pc' := 53) (v := 0) kc_67_52 rfl rfl ?_
  refine xi_istore_n (pc' := 54) (lv' := [(1, .int 0), (3, .int 16), (2, .int 22), (0, .ref 115)]) kc_67_53 rfl rfl (xm_lt ml_67 rfl) ?_
  refine xi_iinc (pc' := 57) (x := 16) (v := 17) (lv' := [(3, .int 17), (1, .int 0), (2, .int 22), (0, .ref 115)]) kc_67_54 rfl rfl rfl rfl (xm_lt ml_67 rfl) ?_
  refine xi_goto (pc' := 12) kc_67_57 rfl ?_
  refine xi_iload_n (pc' := 13) (x := 17) kc_67_12 rfl rfl ?_
  refine xi_iload_n (pc' := 14) (x := 22) kc_67_13 rfl rfl ?_
  refine xi_cmf (pc' := 17) kc_67_14 rfl rfl ?_
  refine xi_iload_n (pc' := 18) (x := 0) kc_67_17 rfl rfl ?_
  refine xi_aload_n (pc' := 19) (x := 115) kc_67_18 rfl rfl ?_
  refine xi_getfield (pc' := 22) (v := .ref 158) kc_67_19 rfl rfl rfl e115 rfl ?_
  refine xi_iload_n (pc' := 23) (x := 22) kc_67_22 rfl rfl ?_
  refine xi_iaload (pc' := 24) (v := 2) kc_67_23 rfl e158 (by decide) rfl (xi_in (n := 24) (by decide) (by decide)) rfl ?_
  refine xi_iconst (pc' := 25) (v := 1) kc_67_24 rfl rfl ?_
  refine xi_cmt (pc' := 51) kc_67_25 rfl rfl ?_
  refine xi_iconst (pc' := 52) (v := 0) kc_67_51 rfl rfl ?_
  refine xi_iadd (pc' := 53) (v := 0) kc_67_52 rfl rfl ?_
  refine xi_istore_n (pc' := 54) (lv' := [(1, .int 0), (3, .int 17), (2, .int 22), (0, .ref 115)]) kc_67_53 rfl rfl (xm_lt ml_67 rfl) ?_
  refine xi_iinc (pc' := 57) (x := 17) (v := 18) (lv' := [(3, .int 18), (1, .int 0), (2, .int 22), (0, .ref 115)]) kc_67_54 rfl rfl rfl rfl (xm_lt ml_67 rfl) ?_
  refine xi_goto (pc' := 12) kc_67_57 rfl ?_
  refine xi_iload_n (pc' := 13) (x := 18) kc_67_12 rfl rfl ?_
  refine xi_iload_n (pc' := 14) (x := 22) kc_67_13 rfl rfl ?_
  refine xi_cmf (pc' := 17) kc_67_14 rfl rfl ?_
  refine xi_iload_n (pc' := 18) (x := 0) kc_67_17 rfl rfl ?_
  refine xi_aload_n (pc' := 19) (x := 115) kc_67_18 rfl rfl ?_
  refine xi_getfield (pc' := 22) (v := .ref 158) kc_67_19 rfl rfl rfl e115 rfl ?_
  refine xi_iload_n (pc' := 23) (x := 22) kc_67_22 rfl rfl ?_
  refine xi_iaload (pc' := 24) (v := 2) kc_67_23 rfl e158 (by decide) rfl (xi_in (n := 24) (by decide) (by decide)) rfl ?_
  refine xi_iconst (pc' := 25) (v := 1) kc_67_24 rfl rfl ?_
  refine xi_cmt (pc' := 51) kc_67_25 rfl rfl ?_
  refine xi_iconst (pc' := 52) (v := 0) kc_67_51 rfl rfl ?_
  refine xi_iadd (pc' := 53) (v := 0) kc_67_52 rfl rfl ?_
  refine xi_istore_n (pc' := 54) (lv' := [(1, .int 0), (3, .int 18), (2, .int 22), (0, .ref 115)]) kc_67_53 rfl rfl (xm_lt ml_67 rfl) ?_
  refine xi_iinc (pc' := 57) (x := 18) (v := 19) (lv' := [(3, .int 19), (1, .int 0), (2, .int 22), (0, .ref 115)]) kc_67_54 rfl rfl rfl rfl (xm_lt ml_67 rfl) ?_
  refine xi_goto (pc' := 12) kc_67_57 rfl ?_
  refine xi_iload_n (pc' := 13) (x := 19) kc_67_12 rfl rfl ?_
  refine xi_iload_n (pc' := 14) (x := 22) kc_67_13 rfl rfl ?_
  refine xi_cmf (pc' := 17) kc_67_14 rfl rfl ?_
  refine xi_iload_n (pc' := 18) (x := 0) kc_67_17 rfl rfl ?_
  refine xi_aload_n (pc' := 19) (x := 115) kc_67_18 rfl rfl ?_
  refine xi_getfield (pc' := 22) (v := .ref 158) kc_67_19 rfl rfl rfl e115 rfl ?_
  refine xi_iload_n (pc' := 23) (x := 22) kc_67_22 rfl rfl ?_
  refine xi_iaload (pc' := 24) (v := 2) kc_67_23 rfl e158 (by decide) rfl (xi_in (n := 24) (by decide) (by decide)) rfl ?_
  refine xi_iconst (pc' := 25) (v := 1) kc_67_24 rfl rfl ?_
  refine xi_cmt (pc' := 51) kc_67_25 rfl rfl ?_
  refine xi_iconst (pc' := 52) (v := 0) kc_67_51 rfl rfl ?_
  refine xi_iadd (pc' := 53) (v := 0) kc_67_52 rfl rfl ?_
  refine xi_istore_n (pc' := 54) (lv' := [(1, .int 0), (3, .int 19), (2, .int 22), (0, .ref 115)]) kc_67_53 rfl rfl (xm_lt ml_67 rfl) ?_
  refine xi_iinc (pc' := 57) (x := 19) (v := 20) (lv' := [(3, .int 20), (1, .int 0), (2, .int 22), (0, .ref 115)]) kc_67_54 rfl rfl rfl rfl (xm_lt ml_67 rfl) ?_
  refine xi_goto (pc' := 12) kc_67_57 rfl ?_
  refine xi_iload_n (pc' := 13) (x := 20) kc_67_12 rfl rfl ?_
  refine xi_iload_n (pc' := 14) (x := 22) kc_67_13 rfl rfl ?_
  refine xi_cmf (pc' := 17) kc_67_14 rfl rfl ?_
  refine xi_iload_n (pc' := 18) (x := 0) kc_67_17 rfl rfl ?_
  refine xi_aload_n (pc' := 19) (x := 115) kc_67_18 rfl rfl ?_
  refine xi_getfield (pc' := 22) (v := .ref 158) kc_67_19 rfl rfl rfl e115 rfl ?_
  refine xi_iload_n (pc' := 23) (x := 22) kc_67_22 rfl rfl ?_
  refine xi_iaload (pc' := 24) (v := 2) kc_67_23 rfl e158 (by decide) rfl (xi_in (n := 24) (by decide) (by decide)) rfl ?_
  refine xi_iconst (pc' := 25) (v := 1) kc_67_24 rfl rfl ?_
  refine xi_cmt (pc' := 51) kc_67_25 rfl rfl ?_
  refine xi_iconst (pc' := 52) (v := 0) kc_67_51 rfl rfl ?_
  refine xi_iadd (pc' := 53) (v := 0) kc_67_52 rfl rfl ?_
  refine xi_istore_n (pc' := 54) (lv' := [(1, .int 0), (3, .int 20), (2, .int 22), (0, .ref 115)]) kc_67_53 rfl rfl (xm_lt ml_67 rfl) ?_
  refine xi_iinc (pc' := 57) (x := 20) (v := 21) (lv' := [(3, .int 21), (1, .int 0), (2, .int 22), (0, .ref 115)]) kc_67_54 rfl rfl rfl rfl (xm_lt ml_67 rfl) ?_
  refine xi_goto (pc' := 12) kc_67_57 rfl ?_
  refine xi_iload_n (pc' := 13) (x := 21) kc_67_12 rfl rfl ?_
  refine xi_iload_n (pc' := 14) (x := 22) kc_67_13 rfl rfl ?_
  refine xi_cmf (pc' := 17) kc_67_14 rfl rfl ?_
  refine xi_iload_n (pc' := 18) (x := 0) kc_67_17 rfl rfl ?_
  refine xi_aload_n (pc' := 19) (x := 115) kc_67_18 rfl rfl ?_
  refine xi_getfield (pc' := 22) (v := .ref 158) kc_67_19 rfl rfl rfl e115 rfl ?_
  refine xi_iload_n (pc' := 23) (x := 22) kc_67_22 rfl rfl ?_
  refine xi_iaload (pc' := 24) (v := 2) kc_67_23 rfl e158 (by decide) rfl (xi_in (n := 24) (by decide) (by decide)) rfl ?_
  refine xi_iconst (pc' := 25) (v := 1) kc_67_24 rfl rfl ?_
  refine xi_cmt (pc' := 51) kc_67_25 rfl rfl ?_
  refine xi_iconst (pc' := 52) (v := 0) kc_67_51 rfl rfl ?_
  refine xi_iadd (pc' := 53) (v := 0) kc_67_52 rfl rfl ?_
  refine xi_istore_n (pc' := 54) (lv' := [(1, .int 0), (3, .int 21), (2, .int 22), (0, .ref 115)]) kc_67_53 rfl rfl (xm_lt ml_67 rfl) ?_
  refine xi_iinc (pc' := 57) (x := 21) (v := 22) (lv' := [(3, .int 22), (1, .int 0), (2, .int 22), (0, .ref 115)]) kc_67_54 rfl rfl rfl rfl (xm_lt ml_67 rfl) ?_
  refine xi_goto (pc' := 12) kc_67_57 rfl ?_
  refine xi_iload_n (pc' := 13) (x := 22) kc_67_12 rfl rfl ?_
  refine xi_iload_n (pc' := 14) (x := 22) kc_67_13 rfl rfl ?_
  refine xi_cmt (pc' := 60) kc_67_14 rfl rfl ?_
  refine xi_iinc (pc' := 63) (x := 22) (v := 23) (lv' := [(2, .int 23), (3, .int 22), (1, .int 0), (0, .ref 115)]) kc_67_60 rfl rfl rfl rfl (xm_lt ml_67 rfl) ?_
  refine xi_goto (pc' := 4) kc_67_63 rfl ?_
  refine xi_iload_n (pc' := 5) (x := 23) kc_67_4 rfl rfl ?_
  refine xi_bipush (pc' := 7) (v := 24) kc_67_5 rfl rfl ?_
  refine xi_cmf (pc' := 10) kc_67_7 rfl rfl ?_
  refine xi_iconst (pc' := 11) (v := 0) kc_67_10 rfl rfl ?_
  refine xi_istore_n (pc' := 12) (lv' := [(3, .int 0), (2, .int 23), (1, .int 0), (0, .ref 115)]) kc_67_11 rfl rfl (xm_lt ml_67 rfl) ?_
  refine xi_iload_n (pc' := 13) (x := 0) kc_67_12 rfl rfl ?_
  refine xi_iload_n (pc' := 14) (x := 23) kc_67_13 rfl rfl ?_
  refine xi_cmf (pc' := 17) kc_67_14 rfl rfl ?_
  refine xi_iload_n (pc' := 18) (x := 0) kc_67_17 rfl rfl ?_
  refine xi_aload_n (pc' := 19) (x := 115) kc_67_18 rfl rfl ?_
  refine xi_getfield (pc' := 22) (v := .ref 158) kc_67_19 rfl rfl rfl e115 rfl ?_
  refine xi_iload_n (pc' := 23) (x := 23) kc_67_22 rfl rfl ?_
  refine xi_iaload (pc' := 24) (v := 2) kc_67_23 rfl e158 (by decide) rfl (xi_in (n := 24) (by decide) (by decide)) rfl ?_
  refine xi_iconst (pc' := 25) (v := 1) kc_67_24 rfl rfl ?_
  refine xi_cmt (pc' := 51) kc_67_25 rfl rfl ?_
  refine xi_iconst (pc' := 52) (v := 0) kc_67_51 rfl rfl ?_
  refine xi_iadd (pc' := 53) (v := 0) kc_67_52 rfl rfl ?_
  refine xi_istore_n (pc' := 54) (lv' := [(1, .int 0), (3, .int 0), (2, .int 23), (0, .ref 115)]) kc_67_53 rfl rfl (xm_lt ml_67 rfl) ?_
  refine xi_iinc (pc' := 57) (x := 0) (v := 1) (lv' := [(3, .int 1), (1, .int 0), (2, .int 23), (0, .ref 115)]) kc_67_54 rfl rfl rfl rfl (xm_lt ml_67 rfl) ?_
  refine xi_goto (pc' := 12) kc_67_57 rfl ?_
  refine xi_iload_n (pc' := 13) (x := 1) kc_67_12 rfl rfl ?_
  refine xi_iload_n (pc' := 14) (x := 23) kc_67_13 rfl rfl ?_
  refine xi_cmf (pc' := 17) kc_67_14 rfl rfl ?_
  refine xi_iload_n (pc' := 18) (x := 0) kc_67_17 rfl rfl ?_
  refine xi_aload_n (pc' := 19) (x := 115) kc_67_18 rfl rfl ?_
  refine xi_getfield (pc' := 22) (v := .ref 158) kc_67_19 rfl rfl rfl e115 rfl ?_
  refine xi_iload_n (pc' := 23) (x := 23) kc_67_22 rfl rfl ?_
  refine xi_iaload (pc' := 24) (v := 2) kc_67_23 rfl e158 (by decide) rfl (xi_in (n := 24) (by decide) (by decide)) rfl ?_
  refine xi_iconst (pc' := 25) (v := 1) kc_67_24 rfl rfl ?_
  refine xi_cmt (pc' := 51) kc_67_25 rfl rfl ?_
  refine xi_iconst (pc' := 52) (v := 0) kc_67_51 rfl rfl ?_
  refine xi_iadd (pc' := 53) (v := 0) kc_67_52 rfl rfl ?_
  refine xi_istore_n (pc' := 54) (lv' := [(1, .int 0), (3, .int 1), (2, .int 23), (0, .ref 115)]) kc_67_53 rfl rfl (xm_lt ml_67 rfl) ?_
  refine xi_iinc (pc' := 57) (x := 1) (v := 2) (lv' := [(3, .int 2), (1, .int 0), (2, .int 23), (0, .ref 115)]) kc_67_54 rfl rfl rfl rfl (xm_lt ml_67 rfl) ?_
  refine xi_goto (pc' := 12) kc_67_57 rfl ?_
  refine xi_iload_n (pc' := 13) (x := 2) kc_67_12 rfl rfl ?_
  refine xi_iload_n (pc' := 14) (x := 23) kc_67_13 rfl rfl ?_
  refine xi_cmf (pc' := 17) kc_67_14 rfl rfl ?_
  refine xi_iload_n (pc' := 18) (x := 0) kc_67_17 rfl rfl ?_
  refine xi_aload_n (pc' := 19) (x := 115) kc_67_18 rfl rfl ?_
  refine xi_getfield (pc' := 22) (v := .ref 158) kc_67_19 rfl rfl rfl e115 rfl ?_
  refine xi_iload_n (pc' := 23) (x := 23) kc_67_22 rfl rfl ?_
  refine xi_iaload (pc' := 24) (v := 2) kc_67_23 rfl e158 (by decide) rfl (xi_in (n := 24) (by decide) (by decide)) rfl ?_
  refine xi_iconst (pc' := 25) (v := 1) kc_67_24 rfl rfl ?_
  refine xi_cmt (pc' := 51) kc_67_25 rfl rfl ?_
  refine xi_iconst (pc' := 52) (v := 0) kc_67_51 rfl rfl ?_
  refine xi_iadd (pc' := 53) (v := 0) kc_67_52 rfl rfl ?_
  refine xi_istore_n (pc' := 54) (lv' := [(1, .int 0), (3, .int 2), (2, .int 23), (0, .ref 115)]) kc_67_53 rfl rfl (xm_lt ml_67 rfl) ?_
  refine xi_iinc (pc' := 57) (x := 2) (v := 3) (lv' := [(3, .int 3), (1, .int 0), (2, .int 23), (0, .ref 115)]) kc_67_54 rfl rfl rfl rfl (xm_lt ml_67 rfl) ?_
  refine xi_goto (pc' := 12) kc_67_57 rfl ?_
  refine xi_iload_n (pc' := 13) (x := 3) kc_67_12 rfl rfl ?_
  refine xi_iload_n (pc' := 14) (x := 23) kc_67_13 rfl rfl ?_
  refine xi_cmf (pc' := 17) kc_67_14 rfl rfl ?_
  refine xi_iload_n (pc' := 18) (x := 0) kc_67_17 rfl rfl ?_
  refine xi_aload_n (pc' := 19) (x := 115) kc_67_18 rfl rfl ?_
  refine xi_getfield (pc' := 22) (v := .ref 158) kc_67_19 rfl rfl rfl e115 rfl ?_
  refine xi_iload_n (pc' := 23) (x := 23) kc_67_22 rfl rfl ?_
  refine xi_iaload (pc' := 24) (v := 2) kc_67_23 rfl e158 (by decide) rfl (xi_in (n := 24) (by decide) (by decide)) rfl ?_
  refine xi_iconst (pc' := 25) (v := 1) kc_67_24 rfl rfl ?_
  refine xi_cmt (pc' := 51) kc_67_25 rfl rfl ?_
  refine xi_iconst (pc' := 52) (v := 0) kc_67_51 rfl rfl ?_
  refine xi_iadd (pc' := 53) (v := 0) kc_67_52 rfl rfl ?_
  refine xi_istore_n (pc' := 54) (lv' := [(1, .int 0), (3, .int 3), (2, .int 23), (0, .ref 115)]) kc_67_53 rfl rfl (xm_lt ml_67 rfl) ?_
  refine xi_iinc (pc' := 57) (x := 3) (v := 4) (lv' := [(3, .int 4), (1, .int 0), (2, .int 23), (0, .ref 115)]) kc_67_54 rfl rfl rfl rfl (xm_lt ml_67 rfl) ?_
  refine xi_goto (pc' := 12) kc_67_57 rfl ?_
  refine xi_iload_n (pc' := 13) (x := 4) kc_67_12 rfl rfl ?_
  refine xi_iload_n (pc' := 14) (x := 23) kc_67_13 rfl rfl ?_
  refine xi_cmf (pc' := 17) kc_67_14 rfl rfl ?_
  refine xi_iload_n (pc' := 18) (x := 0) kc_67_17 rfl rfl ?_
  refine xi_aload_n (pc' := 19) (x := 115) kc_67_18 rfl rfl ?_
  refine xi_getfield (pc' := 22) (v := .ref 158) kc_67_19 rfl rfl rfl e115 rfl ?_
  refine xi_iload_n (pc' := 23) (x := 23) kc_67_22 rfl rfl ?_
  refine xi_iaload (pc' := 24) (v := 2) kc_67_23 rfl e158 (by decide) rfl (xi_in (n := 24) (by decide) (by decide)) rfl ?_
  refine xi_iconst (pc' := 25) (v := 1) kc_67_24 rfl rfl ?_
  refine xi_cmt (pc' := 51) kc_67_25 rfl rfl ?_
  refine xi_iconst (pc' := 52) (v := 0) kc_67_51 rfl rfl ?_
  refine xi_iadd (pc' := 53) (v := 0) kc_67_52 rfl rfl ?_
  refine xi_istore_n (pc' := 54) (lv' := [(1, .int 0), (3, .int 4), (2, .int 23), (0, .ref 115)]) kc_67_53 rfl rfl (xm_lt ml_67 rfl) ?_
  refine xi_iinc (pc' := 57) (x := 4) (v := 5) (lv' := [(3, .int 5), (1, .int 0), (2, .int 23), (0, .ref 115)]) kc_67_54 rfl rfl rfl rfl (xm_lt ml_67 rfl) ?_
  refine xi_goto (pc' := 12) kc_67_57 rfl ?_
  refine xi_iload_n (pc' := 13) (x := 5) kc_67_12 rfl rfl ?_
  refine xi_iload_n (pc' := 14) (x := 23) kc_67_13 rfl rfl ?_
  refine xi_cmf (pc' := 17) kc_67_14 rfl rfl ?_
  refine xi_iload_n (pc' := 18) (x := 0) kc_67_17 rfl rfl ?_
  refine xi_aload_n (pc' := 19) (x := 115) kc_67_18 rfl rfl ?_
  refine xi_getfield (pc' := 22) (v := .ref 158) kc_67_19 rfl rfl rfl e115 rfl ?_
  refine xi_iload_n (pc' := 23) (x := 23) kc_67_22 rfl rfl ?_
  refine xi_iaload (pc' := 24) (v := 2) kc_67_23 rfl e158 (by decide) rfl (xi_in (n := 24) (by decide) (by decide)) rfl ?_
  refine xi_iconst (pc' := 25) (v := 1) kc_67_24 rfl rfl ?_
  refine xi_cmt (pc' := 51) kc_67_25 rfl rfl ?_
  refine xi_iconst (pc' := 52) (v := 0) kc_67_51 rfl rfl ?_
  refine xi_iadd (pc' := 53) (v := 0) kc_67_52 rfl rfl ?_
  refine xi_istore_n (pc' := 54) (lv' := [(1, .int 0), (3, .int 5), (2, .int 23), (0, .ref 115)]) kc_67_53 rfl rfl (xm_lt ml_67 rfl) ?_
  refine xi_iinc (pc' := 57) (x := 5) (v := 6) (lv' := [(3, .int 6), (1, .int 0), (2, .int 23), (0, .ref 115)]) kc_67_54 rfl rfl rfl rfl (xm_lt ml_67 rfl) ?_
  refine xi_goto (pc' := 12) kc_67_57 rfl ?_
  refine xi_iload_n (pc' := 13) (x := 6) kc_67_12 rfl rfl ?_
  refine xi_iload_n (pc' := 14) (x := 23) kc_67_13 rfl rfl ?_
  refine xi_cmf (pc' := 17) kc_67_14 rfl rfl ?_
  refine xi_iload_n (pc' := 18) (x := 0) kc_67_17 rfl rfl ?_
  refine xi_aload_n (pc' := 19) (x := 115) kc_67_18 rfl rfl ?_
  refine xi_getfield (pc' := 22) (v := .ref 158) kc_67_19 rfl rfl rfl e115 rfl ?_
  refine xi_iload_n (pc' := 23) (x := 23) kc_67_22 rfl rfl ?_
  refine xi_iaload (pc' := 24) (v := 2) kc_67_23 rfl e158 (by decide) rfl (xi_in (n := 24) (by decide) (by decide)) rfl ?_
  refine xi_iconst (pc' := 25) (v := 1) kc_67_24 rfl rfl ?_
  refine xi_cmt (pc' := 51) kc_67_25 rfl rfl ?_
  refine xi_iconst (pc' := 52) (v := 0) kc_67_51 rfl rfl ?_
  refine xi_iadd (pc' := 53) (v := 0) kc_67_52 rfl rfl ?_
  refine xi_istore_n (pc' := 54) (lv' := [(1, .int 0), (3, .int 6), (2, .int 23), (0, .ref 115)]) kc_67_53 rfl rfl (xm_lt ml_67 rfl) ?_
  refine xi_iinc (pc' := 57) (x := 6) (v := 7) (lv' := [(3, .int 7), (1, .int 0), (2, .int 23), (0, .ref 115)]) kc_67_54 rfl rfl rfl rfl (xm_lt ml_67 rfl) ?_
  refine xi_goto (pc' := 12) kc_67_57 rfl ?_
  refine xi_iload_n (pc' := 13) (x := 7) kc_67_12 rfl rfl ?_
  refine xi_iload_n (pc' := 14) (x := 23) kc_67_13 rfl rfl ?_
  refine xi_cmf (pc' := 17) kc_67_14 rfl rfl ?_
  refine xi_iload_n (pc' := 18) (x := 0) kc_67_17 rfl rfl ?_
  refine xi_aload_n (pc' := 19) (x := 115) kc_67_18 rfl rfl ?_
  refine xi_getfield (pc' := 22) (v := .ref 158) kc_67_19 rfl rfl rfl e115 rfl ?_
  refine xi_iload_n (pc' := 23) (x := 23) kc_67_22 rfl rfl ?_
  refine xi_iaload (pc' := 24) (v := 2) kc_67_23 rfl e158 (by decide) rfl (xi_in (n := 24) (by decide) (by decide)) rfl ?_
  refine xi_iconst (pc' := 25) (v := 1) kc_67_24 rfl rfl ?_
  refine xi_cmt (pc' := 51) kc_67_25 rfl rfl ?_
  refine xi_iconst (pc' := 52) (v := 0) kc_67_51 rfl rfl ?_
  refine xi_iadd (pc' := 53) (v := 0) kc_67_52 rfl rfl ?_
  refine xi_istore_n (pc' := 54) (lv' := [(1, .int 0), (3, .int 7), (2, .int 23), (0, .ref 115)]) kc_67_53 rfl rfl (xm_lt ml_67 rfl) ?_
  refine xi_iinc (pc' := 57) (x := 7) (v := 8) (lv' := [(3, .int 8), (1, .int 0), (2, .int 23), (0, .ref 115)]) kc_67_54 rfl rfl rfl rfl (xm_lt ml_67 rfl) ?_
  refine xi_goto (pc' := 12) kc_67_57 rfl ?_
  refine xi_iload_n (pc' := 13) (x := 8) kc_67_12 rfl rfl ?_
  refine xi_iload_n (pc' := 14) (x := 23) kc_67_13 rfl rfl ?_
  refine xi_cmf (pc' := 17) kc_67_14 rfl rfl ?_
  refine xi_iload_n (pc' := 18) (x := 0) kc_67_17 rfl rfl ?_
  refine xi_aload_n (pc' := 19) (x := 115) kc_67_18 rfl rfl ?_
  refine xi_getfield (pc' := 22) (v := .ref 158) kc_67_19 rfl rfl rfl e115 rfl ?_
  refine xi_iload_n (pc' := 23) (x := 23) kc_67_22 rfl rfl ?_
  refine xi_iaload (pc' := 24) (v := 2) kc_67_23 rfl e158 (by decide) rfl (xi_in (n := 24) (by decide) (by decide)) rfl ?_
  refine xi_iconst (pc' := 25) (v := 1) kc_67_24 rfl rfl ?_
  refine xi_cmt (pc' := 51) kc_67_25 rfl rfl ?_
  refine xi_iconst (pc' := 52) (v := 0) kc_67_51 rfl rfl ?_
  refine xi_iadd (pc' := 53) (v := 0) kc_67_52 rfl rfl ?_
  refine xi_istore_n (pc' := 54) (lv' := [(1, .int 0), (3, .int 8), (2, .int 23), (0, .ref 115)]) kc_67_53 rfl rfl (xm_lt ml_67 rfl) ?_
  refine xi_iinc (pc' := 57) (x := 8) (v := 9) (lv' := [(3, .int 9), (1, .int 0), (2, .int 23), (0, .ref 115)]) kc_67_54 rfl rfl rfl rfl (xm_lt ml_67 rfl) ?_
  refine xi_goto (pc' := 12) kc_67_57 rfl ?_
  refine xi_iload_n (pc' := 13) (x := 9) kc_67_12 rfl rfl ?_
  refine xi_iload_n (pc' := 14) (x := 23) kc_67_13 rfl rfl ?_
  refine xi_cmf (pc' := 17) kc_67_14 rfl rfl ?_
  refine xi_iload_n (pc' := 18) (x := 0) kc_67_17 rfl rfl ?_
  refine xi_aload_n (pc' := 19) (x := 115) kc_67_18 rfl rfl ?_
  refine xi_getfield (pc' := 22) (v := .ref 158) kc_67_19 rfl rfl rfl e115 rfl ?_
  refine xi_iload_n (pc' := 23) (x := 23) kc_67_22 rfl rfl ?_
  refine xi_iaload (pc' := 24) (v := 2) kc_67_23 rfl e158 (by decide) rfl (xi_in (n := 24) (by decide) (by decide)) rfl ?_
  refine xi_iconst (pc' := 25) (v := 1) kc_67_24 rfl rfl ?_
  refine xi_cmt (pc' := 51) kc_67_25 rfl rfl ?_
  refine xi_iconst (pc' := 52) (v := 0) kc_67_51 rfl rfl ?_
  refine xi_iadd (pc' := 53) (v := 0) kc_67_52 rfl rfl ?_
  refine xi_istore_n (pc' := 54) (lv' := [(1, .int 0), (3, .int 9), (2, .int 23), (0, .ref 115)]) kc_67_53 rfl rfl (xm_lt ml_67 rfl) ?_
  refine xi_iinc (pc' := 57) (x := 9) (v := 10) (lv' := [(3, .int 10), (1, .int 0), (2, .int 23), (0, .ref 115)]) kc_67_54 rfl rfl rfl rfl (xm_lt ml_67 rfl) ?_
  refine xi_goto (pc' := 12) kc_67_57 rfl ?_
  refine xi_iload_n (pc' := 13) (x := 10) kc_67_12 rfl rfl ?_
  refine xi_iload_n (pc' := 14) (x := 23) kc_67_13 rfl rfl ?_
  refine xi_cmf (pc' := 17) kc_67_14 rfl rfl ?_
  refine xi_iload_n (pc' := 18) (x := 0) kc_67_17 rfl rfl ?_
  refine xi_aload_n (pc' := 19) (x := 115) kc_67_18 rfl rfl ?_
  refine xi_getfield (pc' := 22) (v := .ref 158) kc_67_19 rfl rfl rfl e115 rfl ?_
  refine xi_iload_n (pc' := 23) (x := 23) kc_67_22 rfl rfl ?_
  refine xi_iaload (pc' := 24) (v := 2) kc_67_23 rfl e158 (by decide) rfl (xi_in (n := 24) (by decide) (by decide)) rfl ?_
  refine xi_iconst (pc' := 25) (v := 1) kc_67_24 rfl rfl ?_
  refine xi_cmt (pc' := 51) kc_67_25 rfl rfl ?_
  refine xi_iconst (pc' := 52) (v := 0) kc_67_51 rfl rfl ?_
  refine xi_iadd (pc' := 53) (v := 0) kc_67_52 rfl rfl ?_
  refine xi_istore_n (pc' := 54) (lv' := [(1, .int 0), (3, .int 10), (2, .int 23), (0, .ref 115)]) kc_67_53 rfl rfl (xm_lt ml_67 rfl) ?_
  refine xi_iinc (pc' := 57) (x := 10) (v := 11) (lv' := [(3, .int 11), (1, .int 0), (2, .int 23), (0, .ref 115)]) kc_67_54 rfl rfl rfl rfl (xm_lt ml_67 rfl) ?_
  refine xi_goto (pc' := 12) kc_67_57 rfl ?_
  refine xi_iload_n (pc' := 13) (x := 11) kc_67_12 rfl rfl ?_
  refine xi_iload_n (pc' := 14) (x := 23) kc_67_13 rfl rfl ?_
  refine xi_cmf (pc' := 17) kc_67_14 rfl rfl ?_
  refine xi_iload_n (pc' := 18) (x := 0) kc_67_17 rfl rfl ?_
  refine xi_aload_n (pc' := 19) (x := 115) kc_67_18 rfl rfl ?_
  refine xi_getfield (pc' := 22) (v := .ref 158) kc_67_19 rfl rfl rfl e115 rfl ?_
  refine xi_iload_n (pc' := 23) (x := 23) kc_67_22 rfl rfl ?_
  refine xi_iaload (pc' := 24) (v := 2) kc_67_23 rfl e158 (by decide) rfl (xi_in (n := 24) (by decide) (by decide)) rfl ?_
  refine xi_iconst (pc' := 25) (v := 1) kc_67_24 rfl rfl ?_
  refine xi_cmt (pc' := 51) kc_67_25 rfl rfl ?_
  refine xi_iconst (pc' := 52) (v := 0) kc_67_51 rfl rfl ?_
  refine xi_iadd (pc' := 53) (v := 0) kc_67_52 rfl rfl ?_
  refine xi_istore_n (pc' := 54) (lv' := [(1, .int 0), (3, .int 11), (2, .int 23), (0, .ref 115)]) kc_67_53 rfl rfl (xm_lt ml_67 rfl) ?_
  refine xi_iinc (pc' := 57) (x := 11) (v := 12) (lv' := [(3, .int 12), (1, .int 0), (2, .int 23), (0, .ref 115)]) kc_67_54 rfl rfl rfl rfl (xm_lt ml_67 rfl) ?_
  refine xi_goto (pc' := 12) kc_67_57 rfl ?_
  refine xi_iload_n (pc' := 13) (x := 12) kc_67_12 rfl rfl ?_
  refine xi_iload_n (pc' := 14) (x := 23) kc_67_13 rfl rfl ?_
  refine xi_cmf (pc' := 17) kc_67_14 rfl rfl ?_
  refine xi_iload_n (pc' := 18) (x := 0) kc_67_17 rfl rfl ?_
  refine xi_aload_n (pc' := 19) (x := 115) kc_67_18 rfl rfl ?_
  refine xi_getfield (pc' := 22) (v := .ref 158) kc_67_19 rfl rfl rfl e115 rfl ?_
  refine xi_iload_n (pc' := 23) (x := 23) kc_67_22 rfl rfl ?_
  refine xi_iaload (pc' := 24) (v := 2) kc_67_23 rfl e158 (by decide) rfl (xi_in (n := 24) (by decide) (by decide)) rfl ?_
  refine xi_iconst (pc' := 25) (v := 1) kc_67_24 rfl rfl ?_
  refine xi_cmt (pc' := 51) kc_67_25 rfl rfl ?_
  refine xi_iconst (pc' := 52) (v := 0) kc_67_51 rfl rfl ?_
  refine xi_iadd (pc' := 53) (v := 0) kc_67_52 rfl rfl ?_
  refine xi_istore_n (pc' := 54) (lv' := [(1, .int 0), (3, .int 12), (2, .int 23), (0, .ref 115)]) kc_67_53 rfl rfl (xm_lt ml_67 rfl) ?_
  refine xi_iinc (pc' := 57) (x := 12) (v := 13) (lv' := [(3, .int 13), (1, .int 0), (2, .int 23), (0, .ref 115)]) kc_67_54 rfl rfl rfl rfl (xm_lt ml_67 rfl) ?_
  refine xi_goto (pc' := 12) kc_67_57 rfl ?_
  refine xi_iload_n (pc' := 13) (x := 13) kc_67_12 rfl rfl ?_
  refine xi_iload_n (pc' := 14) (x := 23) kc_67_13 rfl rfl ?_
  refine xi_cmf (pc' := 17) kc_67_14 rfl rfl ?_
  refine xi_iload_n (pc' := 18) (x := 0) kc_67_17 rfl rfl ?_
  refine xi_aload_n (pc' := 19) (x := 115) kc_67_18 rfl rfl ?_
  refine xi_getfield (pc' := 22) (v := .ref 158) kc_67_19 rfl rfl rfl e115 rfl ?_
  refine xi_iload_n (pc' := 23) (x := 23) kc_67_22 rfl rfl ?_
  refine xi_iaload (pc' := 24) (v := 2) kc_67_23 rfl e158 (by decide) rfl (xi_in (n := 24) (by decide) (by decide)) rfl ?_
  refine xi_iconst (pc' := 25) (v := 1) kc_67_24 rfl rfl ?_
  refine xi_cmt (pc' := 51) kc_67_25 rfl rfl ?_
  refine xi_iconst (pc' := 52) (v := 0) kc_67_51 rfl rfl ?_
  refine xi_iadd (pc' := 53) (v := 0) kc_67_52 rfl rfl ?_
  refine xi_istore_n (pc' := 54) (lv' := [(1, .int 0), (3, .int 13), (2, .int 23), (0, .ref 115)]) kc_67_53 rfl rfl (xm_lt ml_67 rfl) ?_
  refine xi_iinc (pc' := 57) (x := 13) (v := 14) (lv' := [(3, .int 14), (1, .int 0), (2, .int 23), (0, .ref 115)]) kc_67_54 rfl rfl rfl rfl (xm_lt ml_67 rfl) ?_
  refine xi_goto (pc' := 12) kc_67_57 rfl ?_
  refine xi_iload_n (pc' := 13) (x := 14) kc_67_12 rfl rfl ?_
  refine xi_iload_n (pc' := 14) (x := 23) kc_67_13 rfl rfl ?_
  refine xi_cmf (pc' := 17) kc_67_14 rfl rfl ?_
  refine xi_iload_n (pc' := 18) (x := 0) kc_67_17 rfl rfl ?_
  refine xi_aload_n (pc' := 19) (x := 115) kc_67_18 rfl rfl ?_
  refine xi_getfield (pc' := 22) (v := .ref 158) kc_67_19 rfl rfl rfl e115 rfl ?_
  refine xi_iload_n (pc' := 23) (x := 23) kc_67_22 rfl rfl ?_
  refine xi_iaload (pc' := 24) (v := 2) kc_67_23 rfl e158 (by decide) rfl (xi_in (n := 24) (by decide) (by decide)) rfl ?_
  refine xi_iconst (pc' := 25) (v := 1) kc_67_24 rfl rfl ?_
  refine xi_cmt (pc' := 51) kc_67_25 rfl rfl ?_
  refine xi_iconst (pc' := 52) (v := 0) kc_67_51 rfl rfl ?_
  refine xi_iadd (pc' := 53) (v := 0) kc_67_52 rfl rfl ?_
  refine xi_istore_n (pc' := 54) (lv' := [(1, .int 0), (3, .int 14), (2, .int 23), (0, .ref 115)]) kc_67_53 rfl rfl (xm_lt ml_67 rfl) ?_
  refine xi_iinc (pc' := 57) (x := 14) (v := 15) (lv' := [(3, .int 15), (1, .int 0), (2, .int 23), (0, .ref 115)]) kc_67_54 rfl rfl rfl rfl (xm_lt ml_67 rfl) ?_
  refine xi_goto (pc' := 12) kc_67_57 rfl ?_
  refine xi_iload_n (pc' := 13) (x := 15) kc_67_12 rfl rfl ?_
  refine xi_iload_n (pc' := 14) (x := 23) kc_67_13 rfl rfl ?_
  refine xi_cmf (pc' := 17) kc_67_14 rfl rfl ?_
  refine xi_iload_n (pc' := 18) (x := 0) kc_67_17 rfl rfl ?_
  refine xi_aload_n (pc' := 19) (x := 115) kc_67_18 rfl rfl ?_
  refine xi_getfield (pc' := 22) (v := .ref 158) kc_67_19 rfl rfl rfl e115 rfl ?_
  refine xi_iload_n (pc' := 23) (x := 23) kc_67_22 rfl rfl ?_
  refine xi_iaload (pc' := 24) (v := 2) kc_67_23 rfl e158 (by decide) rfl (xi_in (n := 24) (by decide) (by decide)) rfl ?_
  refine xi_iconst (pc' := 25) (v := 1) kc_67_24 rfl rfl ?_
  refine xi_cmt (pc' := 51) kc_67_25 rfl rfl ?_
  refine xi_iconst (pc' := 52) (v := 0) kc_67_51 rfl rfl ?_
  refine xi_iadd (pc' := 53) (v := 0) kc_67_52 rfl rfl ?_
  refine xi_istore_n (pc' := 54) (lv' := [(1, .int 0), (3, .int 15), (2, .int 23), (0, .ref 115)]) kc_67_53 rfl rfl (xm_lt ml_67 rfl) ?_
  refine xi_iinc (pc' := 57) (x := 15) (v := 16) (lv' := [(3, .int 16), (1, .int 0), (2, .int 23), (0, .ref 115)]) kc_67_54 rfl rfl rfl rfl (xm_lt ml_67 rfl) ?_
  refine xi_goto (pc' := 12) kc_67_57 rfl ?_
  refine xi_iload_n (pc' := 13) (x := 16) kc_67_12 rfl rfl ?_
  refine xi_iload_n (pc' := 14) (x := 23) kc_67_13 rfl rfl ?_
  refine xi_cmf (pc' := 17) kc_67_14 rfl rfl ?_
  refine xi_iload_n (pc' := 18) (x := 0) kc_67_17 rfl rfl ?_
  refine xi_aload_n (pc' := 19) (x := 115) kc_67_18 rfl rfl ?_
  refine xi_getfield (pc' := 22) (v := .ref 158) kc_67_19 rfl rfl rfl e115 rfl ?_
  refine xi_iload_n (pc' := 23) (x := 23) kc_67_22 rfl rfl ?_
  refine xi_iaload (pc' := 24) (v := 2) kc_67_23 rfl e158 (by decide) rfl (xi_in (n := 24) (by decide) (by decide)) rfl ?_
  refine xi_iconst (pc' := 25) (v := 1) kc_67_24 rfl rfl ?_
  refine xi_cmt (pc' := 51) kc_67_25 rfl rfl ?_
  refine xi_iconst (pc' := 52) (v := 0) kc_67_51 rfl rfl ?_
  refine xi_iadd (pc' := 53) (v := 0) kc_67_52 rfl rfl ?_
  refine xi_istore_n (pc' := 54) (lv' := [(1, .int 0), (3, .int 16), (2, .int 23), (0, .ref 115)]) kc_67_53 rfl rfl (xm_lt ml_67 rfl) ?_
  refine xi_iinc (pc' := 57) (x := 16) (v := 17) (lv' := [(3, .int 17), (1, .int 0), (2, .int 23), (0, .ref 115)]) kc_67_54 rfl rfl rfl rfl (xm_lt ml_67 rfl) ?_
  refine xi_goto (pc' := 12) kc_67_57 rfl ?_
  refine xi_iload_n (pc' := 13) (x := 17) kc_67_12 rfl rfl ?_
  refine xi_iload_n (pc' := 14) (x := 23) kc_67_13 rfl rfl ?_
  refine xi_cmf (pc' := 17) kc_67_14 rfl rfl ?_
  refine xi_iload_n (pc' := 18) (x := 0) kc_67_17 rfl rfl ?_
  refine xi_aload_n (pc' := 19) (x := 115) kc_67_18 rfl rfl ?_
  refine xi_getfield (pc' := 22) (v := .ref 158) kc_67_19 rfl rfl rfl e115 rfl ?_
  refine xi_iload_n (pc' := 23) (x := 23) kc_67_22 rfl rfl ?_
  refine xi_iaload (pc' := 24) (v := 2) kc_67_23 rfl e158 (by decide) rfl (xi_in (n := 24) (by decide) (by decide)) rfl ?_
  refine xi_iconst (pc' := 25) (v := 1) kc_67_24 rfl rfl ?_
  refine xi_cmt (pc' := 51) kc_67_25 rfl rfl ?_
  refine xi_iconst (pc' := 52) (v := 0) kc_67_51 rfl rfl ?_
  refine xi_iadd (pc' := 53) (v := 0) kc_67_52 rfl rfl ?_
  refine xi_istore_n (pc' := 54) (lv' := [(1, .int 0), (3, .int 17), (2, .int 23), (0, .ref 115)]) kc_67_53 rfl rfl (xm_lt ml_67 rfl) ?_
  refine xi_iinc (pc' := 57) (x := 17) (v := 18) (lv' := [(3, .int 18), (1, .int 0), (2, .int 23), (0, .ref 115)]) kc_67_54 rfl rfl rfl rfl (xm_lt ml_67 rfl) ?_
  refine xi_goto (pc' := 12) kc_67_57 rfl ?_
  refine xi_iload_n (pc' := 13) (x := 18) kc_67_12 rfl rfl ?_
  refine xi_iload_n (pc' := 14) (x := 23) kc_67_13 rfl rfl ?_
  refine xi_cmf (pc' := 17) kc_67_14 rfl rfl ?_
  refine xi_iload_n (pc' := 18) (x := 0) kc_67_17 rfl rfl ?_
  refine xi_aload_n (pc' := 19) (x := 115) kc_67_18 rfl rfl ?_
  refine xi_getfield (pc' := 22) (v := .ref 158) kc_67_19 rfl rfl rfl e115 rfl ?_
  refine xi_iload_n (pc' := 23) (x := 23) kc_67_22 rfl rfl ?_
  refine xi_iaload (pc' := 24) (v := 2) kc_67_23 rfl e158 (by decide) rfl (xi_in (n := 24) (by decide) (by decide)) rfl ?_
  refine xi_iconst (pc' := 25) (v := 1) kc_67_24 rfl rfl ?_
  refine xi_cmt (pc' := 51) kc_67_25 rfl rfl ?_
  refine xi_iconst (pc' := 52) (v := 0) kc_67_51 rfl rfl ?_
  refine xi_iadd (pc' := 53) (v := 0) kc_67_52 rfl rfl ?_
  refine xi_istore_n (pc' := 54) (lv' := [(1, .int 0), (3, .int 18), (2, .int 23), (0, .ref 115)]) kc_67_53 rfl rfl (xm_lt ml_67 rfl) ?_
  refine xi_iinc (pc' := 57) (x := 18) (v := 19) (lv' := [(3, .int 19), (1, .int 0), (2, .int 23), (0, .ref 115)]) kc_67_54 rfl rfl rfl rfl (xm_lt ml_67 rfl) ?_
  refine xi_goto (pc' := 12) kc_67_57 rfl ?_
  refine xi_iload_n (pc' := 13) (x := 19) kc_67_12 rfl rfl ?_
  refine xi_iload_n (pc' := 14) (x := 23) kc_67_13 rfl rfl ?_
  refine xi_cmf (pc' := 17) kc_67_14 rfl rfl ?_
  refine xi_iload_n (pc' := 18) (x := 0) kc_67_17 rfl rfl ?_
  refine xi_aload_n (pc' := 19) (x := 115) kc_67_18 rfl rfl ?_
  refine xi_getfield (pc' := 22) (v := .ref 158) kc_67_19 rfl rfl rfl e115 rfl ?_
  refine xi_iload_n (pc' := 23) (x := 23) kc_67_22 rfl rfl ?_
  refine xi_iaload (pc' := 24) (v := 2) kc_67_23 rfl e158 (by decide) rfl (xi_in (n := 24) (by decide) (by decide)) rfl ?_
  refine xi_iconst (pc' := 25) (v := 1) kc_67_24 rfl rfl ?_
  refine xi_cmt (pc' := 51) kc_67_25 rfl rfl ?_
  refine xi_iconst (pc' := 52) (v := 0) kc_67_51 rfl rfl ?_
  refine xi_iadd (pc' := 53) (v := 0) kc_67_52 rfl rfl ?_
  refine xi_istore_n (pc' := 54) (lv' := [(1, .int 0), (3, .int 19), (2, .int 23), (0, .ref 115)]) kc_67_53 rfl rfl (xm_lt ml_67 rfl) ?_
  refine xi_iinc (pc' := 57) (x := 19) (v := 20) (lv' := [(3, .int 20), (1, .int 0), (2, .int 23), (0, .ref 115)]) kc_67_54 rfl rfl rfl rfl (xm_lt ml_67 rfl) ?_
  refine xi_goto (pc' := 12) kc_67_57 rfl ?_
  refine xi_iload_n (pc' := 13) (x := 20) kc_67_12 rfl rfl ?_
  refine xi_iload_n (pc' := 14) (x := 23) kc_67_13 rfl rfl ?_
  refine xi_cmf (pc' := 17) kc_67_14 rfl rfl ?_
  refine xi_iload_n (pc' := 18) (x := 0) kc_67_17 rfl rfl ?_
  refine xi_aload_n (pc' := 19) (x := 115) kc_67_18 rfl rfl ?_
  refine xi_getfield (pc' := 22) (v := .ref 158) kc_67_19 rfl rfl rfl e115 rfl ?_
  refine xi_iload_n (pc' := 23) (x := 23) kc_67_22 rfl rfl ?_
  refine xi_iaload (pc' := 24) (v := 2) kc_67_23 rfl e158 (by decide) rfl (xi_in (n := 24) (by decide) (by decide)) rfl ?_
  refine xi_iconst (pc' := 25) (v := 1) kc_67_24 rfl rfl ?_
  refine xi_cmt (pc' := 51) kc_67_25 rfl rfl ?_
  refine xi_iconst (pc' := 52) (v := 0) kc_67_51 rfl rfl ?_
  refine xi_iadd (pc' := 53) (v := 0) kc_67_52 rfl rfl ?_
  refine xi_istore_n (pc' := 54) (lv' := [(1, .int 0), (3, .int 20), (2, .int 23), (0, .ref 115)]) kc_67_53 rfl rfl (xm_lt ml_67 rfl) ?_
  refine xi_iinc (pc' := 57) (x := 20) (v := 21) (lv' := [(3, .int 21), (1, .int 0), (2, .int 23), (0, .ref 115)]) kc_67_54 rfl rfl rfl rfl (xm_lt ml_67 rfl) ?_
  refine xi_goto (pc' := 12) kc_67_57 rfl ?_
  refine xi_iload_n (pc' := 13) (x := 21) kc_67_12 rfl rfl ?_
  refine xi_iload_n (pc' := 14) (x := 23) kc_67_13 rfl rfl ?_
  refine xi_cmf (pc' := 17) kc_67_14 rfl rfl ?_
  refine xi_iload_n (pc' := 18) (x := 0) kc_67_17 rfl rfl ?_
  refine xi_aload_n (pc' := 19) (x := 115) kc_67_18 rfl rfl ?_
  refine xi_getfield (pc' := 22) (v := .ref 158) kc_67_19 rfl rfl rfl e115 rfl ?_
  refine xi_iload_n (pc' := 23) (x := 23) kc_67_22 rfl rfl ?_
  refine xi_iaload (pc' := 24) (v := 2) kc_67_23 rfl e158 (by decide) rfl (xi_in (n := 24) (by decide) (by decide)) rfl ?_
  refine xi_iconst (pc' := 25) (v := 1) kc_67_24 rfl rfl ?_
  refine xi_cmt (pc' := 51) kc_67_25 rfl rfl ?_
  refine xi_iconst (pc' := 52) (v := 0) kc_67_51 rfl rfl ?_
  refine xi_iadd (pc' := 53) (v := 0) kc_67_52 rfl rfl ?_
  refine xi_istore_n (pc' := 54) (lv' := [(1, .int 0), (3, .int 21), (2, .int 23), (0, .ref 115)]) kc_67_53 rfl rfl (xm_lt ml_67 rfl) ?_
  refine xi_iinc (pc' := 57) (x := 21) (v := 22) (lv' := [(3, .int 22), (1, .int 0), (2, .int 23), (0, .ref 115)]) kc_67_54 rfl rfl rfl rfl (xm_lt ml_67 rfl) ?_
  refine xi_goto (pc' := 12) kc_67_57 rfl ?_
  refine xi_iload_n (pc' := 13) (x := 22) kc_67_12 rfl rfl ?_
  refine xi_iload_n (pc' := 14) (x := 23) kc_67_13 rfl rfl ?_
  refine xi_cmf (pc' := 17) kc_67_14 rfl rfl ?_
  refine xi_iload_n (pc' := 18) (x := 0) kc_67_17 rfl rfl ?_
  refine xi_aload_n (pc' := 19) (x := 115) kc_67_18 rfl rfl ?_
  refine xi_getfield (pc' := 22) (v := .ref 158) kc_67_19 rfl rfl rfl e115 rfl ?_
  refine xi_iload_n (pc' := 23) (x := 23) kc_67_22 rfl rfl ?_
  refine xi_iaload (pc' := 24) (v := 2) kc_67_23 rfl e158 (by decide) rfl (xi_in (n := 24) (by decide) (by decide)) rfl ?_
  refine xi_iconst (pc' := 25) (v := 1) kc_67_24 rfl rfl ?_
  refine xi_cmt (pc' := 51) kc_67_25 rfl rfl ?_
  refine xi_iconst (pc' := 52) (v := 0) kc_67_51 rfl rfl ?_
  refine xi_iadd (pc' := 53) (v := 0) kc_67_52 rfl rfl ?_
  refine xi_istore_n (pc' := 54) (lv' := [(1, .int 0), (3, .int 22), (2, .int 23), (0, .ref 115)]) kc_67_53 rfl rfl (xm_lt ml_67 rfl) ?_
  refine xi_iinc (pc' := 57) (x := 22) (v := 23) (lv' := [(3, .int 23), (1, .int 0), (2, .int 23), (0, .ref 115)]) kc_67_54 rfl rfl rfl rfl (xm_lt ml_67 rfl) ?_
  refine xi_goto (pc' := 12) kc_67_57 rfl ?_
  refine xi_iload_n (pc' := 13) (x := 23) kc_67_12 rfl rfl ?_
  refine xi_iload_n (pc' := 14) (x := 23) kc_67_13 rfl rfl ?_
  refine xi_cmt (pc' := 60) kc_67_14 rfl rfl ?_
  refine xi_iinc (pc' := 63) (x := 23) (v := 24) (lv' := [(2, .int 24), (3, .int 23), (1, .int 0), (0, .ref 115)]) kc_67_60 rfl rfl rfl rfl (xm_lt ml_67 rfl) ?_
  refine xi_goto (pc' := 4) kc_67_63 rfl ?_
  refine xi_iload_n (pc' := 5) (x := 24) kc_67_4 rfl rfl ?_
  refine xi_bipush (pc' := 7) (v := 24) kc_67_5 rfl rfl ?_
  refine xi_cmt (pc' := 66) kc_67_7 rfl rfl ?_
  refine xi_iload_n (pc' := 67) (x := 0) kc_67_66 rfl rfl ?_
  refine xi_ireturn kc_67_67 mr_67 rfl ?_
  exact kk
