section XES
variable {p : Program} {l : Launch} {e : Env} {R : Room} {s : State} {m : MethodId} {args : Array Value} {below : List Frame} {meth : Method} {c : Code} {H : Heap} {locs : List Loc} {Q : State → Prop}
variable {ov : List (List Int32)} {D : va_G} {cA : Nat → ClassId} {old : Nat → Nat} {base mi : Nat} {ls : Array Slot} {n0 z0 : Nat}
set_option maxHeartbeats 4000000 in
theorem xe_step (F : xe_F ov D cA old base p s m args meth c mi) {S S' : xe_S} (hn : xe_nx ov mi S = some (.inl S')) (hR : xe_Rl D cA old base s.heap S.2.2.2 H locs) (hl : lv_has ls (xe_mL mi) (S.2.1.map (xe_q (xe_ad base old)))) (h0 : n0 ≤ S.2.2.2.length) (hz0 : z0 ≤ xe_sz S.2.2.2) (hc : S'.2.2.2.length ≤ n0 + R.cells) (hs : xe_sz S'.2.2.2 ≤ z0 + R.slots) (hfr : 1 ≤ R.frames) (hlo : 20 ≤ R.locals)
    (kk : ∀ (H1 : Heap) (locs1 : List Loc) (ls1 : Array Slot), xe_Rl D cA old base s.heap S'.2.2.2 H1 locs1 → lv_has ls1 (xe_mL mi) (S'.2.1.map (xe_q (xe_ad base old))) → W p l e R s m args below meth c H1 locs1 (S'.2.2.2.length - n0) (xe_sz S'.2.2.2 - z0) Q (F0 m S'.1 ls1 (S'.2.2.1.map (xe_v (xe_ad base old))))) :
    W p l e R s m args below meth c H locs (S.2.2.2.length - n0) (xe_sz S.2.2.2 - z0) Q (F0 m S.1 ls (S.2.2.1.map (xe_v (xe_ad base old)))) := by
  obtain ⟨pc, lv, st, h⟩ := S
  unfold xe_nx at hn
  dsimp only at hn hR hl h0 hz0 ⊢
  have F' := F
  obtain ⟨hx, hb, hml, hown, hts, hret, hlk, hmn, hbs, hK⟩ := F'
  cases hcode : xe_code mi pc with
  | none => rw [hcode] at hn; cases hn
  | some q =>
  obtain ⟨i, ax⟩ := q
  rw [hcode] at hn
  dsimp only at hn
  obtain ⟨hd, hw⟩ := xe_ok hcode
  cases i with
  | iconst n =>
    cases xe_on_inv hn
    exact lv_iconst hx hb (xe_dec_of hd rfl) rfl (kk H locs ls hR hl)
  | lconst n =>
    cases xe_on_inv hn
    exact lv_lconst hx hb (xe_dec_of hd rfl) rfl (kk H locs ls hR hl)
  | bipush n =>
    cases xe_on_inv hn
    exact lv_bipush hx hb (xe_dec_of hd rfl) rfl (kk H locs ls hR hl)
  | sipush n =>
    cases xe_on_inv hn
    exact lv_sipush hx hb (xe_dec_of hd rfl) rfl (kk H locs ls hR hl)
  | ldc idx =>
    cases xe_on_inv hn
    exact lv_ldc hx hb hown (hts _ (xe_in_of hw)) (xe_dec_of hd rfl) (kk H locs ls hR hl)
  | ldc_w idx =>
    cases xe_on_inv hn
    exact lv_ldcw hx hb hown (hts _ (xe_in_of hw)) (xe_dec_of hd rfl) (kk H locs ls hR hl)
  | ldc2_w idx =>
    cases xe_on_inv hn
    exact lv_ldc2 hx hb hown (hts _ (xe_in_of hw)) (xe_dec_of hd rfl) (kk H locs ls hR hl)
  | iload_n k =>
    obtain ⟨x, h1, hn⟩ := xe_ldI_inv hn
    cases xe_on_inv hn
    exact lv_iload_n hx hb (xe_dec_of hd rfl) rfl (xe_rd hl h1) (kk H locs ls hR hl)
  | iload k =>
    obtain ⟨x, h1, hn⟩ := xe_ldI_inv hn
    cases xe_on_inv hn
    exact lv_iload hx hb (xe_dec_of hd rfl) (xe_rd hl h1) (kk H locs ls hR hl)
  | lload_n k =>
    obtain ⟨x, h1, hn⟩ := xe_ldL_inv hn
    cases xe_on_inv hn
    exact lv_lload_n hx hb (xe_dec_of hd rfl) rfl (xe_rd hl h1) (kk H locs ls hR hl)
  | lload k =>
    obtain ⟨x, h1, hn⟩ := xe_ldL_inv hn
    cases xe_on_inv hn
    exact lv_lload hx hb (xe_dec_of hd rfl) (xe_rd hl h1) (kk H locs ls hR hl)
  | aload_n k =>
    dsimp only [xe_i] at hn
    split at hn
    · rename_i x h1
      cases xe_on_inv hn
      exact lv_aload_n hx hb (xe_dec_of hd rfl) rfl (xe_rd hl h1) (kk H locs ls hR hl)
    · cases hn
  | aload k =>
    dsimp only [xe_i] at hn
    split at hn
    · rename_i x h1
      cases xe_on_inv hn
      exact lv_aload hx hb (xe_dec_of hd rfl) (xe_rd hl h1) (kk H locs ls hR hl)
    · cases hn
  | istore_n k =>
    obtain ⟨x, r, rfl, hn⟩ := xe_p1_inv hn
    obtain ⟨h1, hn⟩ := xe_if_inv hn
    cases xe_on_inv hn
    exact lv_istore_n hx hb (xe_dec_of hd rfl) rfl hl h1 (xe_st1_map _ lv _ (.int x)) (fun ls' hl' => kk H locs ls' hR hl')
  | istore k =>
    obtain ⟨x, r, rfl, hn⟩ := xe_p1_inv hn
    obtain ⟨h1, hn⟩ := xe_if_inv hn
    cases xe_on_inv hn
    exact lv_istore hx hb (xe_dec_of hd rfl) hl h1 (xe_st1_map _ lv _ (.int x)) (fun ls' hl' => kk H locs ls' hR hl')
  | lstore_n k =>
    obtain ⟨x, r, rfl, hn⟩ := xe_pL_inv hn
    obtain ⟨h1, hn⟩ := xe_if_inv hn
    cases xe_on_inv hn
    exact lv_lstore_n hx hb (xe_dec_of hd rfl) rfl hl h1 (xe_st2_map _ lv _ (.long x)) (fun ls' hl' => kk H locs ls' hR hl')
  | lstore k =>
    obtain ⟨x, r, rfl, hn⟩ := xe_pL_inv hn
    obtain ⟨h1, hn⟩ := xe_if_inv hn
    cases xe_on_inv hn
    exact lv_lstore hx hb (xe_dec_of hd rfl) hl h1 (xe_st2_map _ lv _ (.long x)) (fun ls' hl' => kk H locs ls' hR hl')
  | astore_n k =>
    obtain ⟨x, r, rfl, hn⟩ := xe_pR_inv hn
    obtain ⟨h1, hn⟩ := xe_if_inv hn
    cases xe_on_inv hn
    exact lv_astore_n hx hb (xe_dec_of hd rfl) rfl hl h1 (xe_st1_map _ lv _ (.ref x)) (fun ls' hl' => kk H locs ls' hR hl')
  | astore k =>
    obtain ⟨x, r, rfl, hn⟩ := xe_pR_inv hn
    obtain ⟨h1, hn⟩ := xe_if_inv hn
    cases xe_on_inv hn
    exact lv_astore hx hb (xe_dec_of hd rfl) hl h1 (xe_st1_map _ lv _ (.ref x)) (fun ls' hl' => kk H locs ls' hR hl')
  | iinc k n =>
    obtain ⟨x, h1, hn⟩ := xe_ldI_inv hn
    obtain ⟨h2, hn⟩ := xe_if_inv hn
    cases xe_on_inv hn
    obtain ⟨j, hj⟩ := List.getElem?_of_mem (List.mem_map_of_mem (f := xe_q (xe_ad base old)) (xe_ld_mem h1))
    exact lv_iinc hx hb (xe_dec_of hd rfl) hl hj rfl h2 (xe_st1_map _ lv _ (.int (x + Int32.ofInt n))) (fun ls' hl' => kk H locs ls' hR hl')
  | iadd =>
    obtain ⟨x, y, r, rfl, hn⟩ := xe_p2_inv hn
    cases xe_on_inv hn
    exact lv_iadd hx hb (xe_dec_of hd rfl) (kk H locs ls hR hl)
  | isub =>
    obtain ⟨x, y, r, rfl, hn⟩ := xe_p2_inv hn
    cases xe_on_inv hn
    exact lv_isub hx hb (xe_dec_of hd rfl) (kk H locs ls hR hl)
  | imul =>
    obtain ⟨x, y, r, rfl, hn⟩ := xe_p2_inv hn
    cases xe_on_inv hn
    exact lv_imul hx hb (xe_dec_of hd rfl) (kk H locs ls hR hl)
  | iand =>
    obtain ⟨x, y, r, rfl, hn⟩ := xe_p2_inv hn
    cases xe_on_inv hn
    exact lv_iand hx hb (xe_dec_of hd rfl) (kk H locs ls hR hl)
  | ior =>
    obtain ⟨x, y, r, rfl, hn⟩ := xe_p2_inv hn
    cases xe_on_inv hn
    exact lv_ior hx hb (xe_dec_of hd rfl) (kk H locs ls hR hl)
  | ixor =>
    obtain ⟨x, y, r, rfl, hn⟩ := xe_p2_inv hn
    cases xe_on_inv hn
    exact lv_ixor hx hb (xe_dec_of hd rfl) (kk H locs ls hR hl)
  | ishl =>
    obtain ⟨x, y, r, rfl, hn⟩ := xe_p2_inv hn
    cases xe_on_inv hn
    exact lv_ishl hx hb (xe_dec_of hd rfl) (kk H locs ls hR hl)
  | ishr =>
    obtain ⟨x, y, r, rfl, hn⟩ := xe_p2_inv hn
    cases xe_on_inv hn
    exact lv_ishr hx hb (xe_dec_of hd rfl) (kk H locs ls hR hl)
  | iushr =>
    obtain ⟨x, y, r, rfl, hn⟩ := xe_p2_inv hn
    cases xe_on_inv hn
    exact lv_iushr hx hb (xe_dec_of hd rfl) rfl (kk H locs ls hR hl)
  | idiv =>
    obtain ⟨x, y, r, rfl, hn⟩ := xe_p2_inv hn
    obtain ⟨h1, hn⟩ := xe_ifn_inv hn
    cases xe_on_inv hn
    exact lv_idiv hx hb (xe_dec_of hd rfl) h1 (kk H locs ls hR hl)
  | irem =>
    obtain ⟨x, y, r, rfl, hn⟩ := xe_p2_inv hn
    obtain ⟨h1, hn⟩ := xe_ifn_inv hn
    cases xe_on_inv hn
    exact lv_irem hx hb (xe_dec_of hd rfl) h1 (kk H locs ls hR hl)
  | ineg =>
    obtain ⟨x, r, rfl, hn⟩ := xe_p1_inv hn
    cases xe_on_inv hn
    exact lv_ineg hx hb (xe_dec_of hd rfl) (kk H locs ls hR hl)
  | i2l =>
    obtain ⟨x, r, rfl, hn⟩ := xe_p1_inv hn
    cases xe_on_inv hn
    exact lv_i2l hx hb (xe_dec_of hd rfl) rfl (kk H locs ls hR hl)
  | l2i =>
    obtain ⟨x, r, rfl, hn⟩ := xe_pL_inv hn
    cases xe_on_inv hn
    exact lv_l2i hx hb (xe_dec_of hd rfl) rfl (kk H locs ls hR hl)
  | ladd =>
    obtain ⟨x, y, r, rfl, hn⟩ := xe_pLL_inv hn
    cases xe_on_inv hn
    exact lv_ladd hx hb (xe_dec_of hd rfl) (kk H locs ls hR hl)
  | lsub =>
    obtain ⟨x, y, r, rfl, hn⟩ := xe_pLL_inv hn
    cases xe_on_inv hn
    exact lv_lsub hx hb (xe_dec_of hd rfl) (kk H locs ls hR hl)
  | lmul =>
    obtain ⟨x, y, r, rfl, hn⟩ := xe_pLL_inv hn
    cases xe_on_inv hn
    exact lv_lmul hx hb (xe_dec_of hd rfl) (kk H locs ls hR hl)
  | land =>
    obtain ⟨x, y, r, rfl, hn⟩ := xe_pLL_inv hn
    cases xe_on_inv hn
    exact lv_land hx hb (xe_dec_of hd rfl) (kk H locs ls hR hl)
  | lor =>
    obtain ⟨x, y, r, rfl, hn⟩ := xe_pLL_inv hn
    cases xe_on_inv hn
    exact lv_lor hx hb (xe_dec_of hd rfl) (kk H locs ls hR hl)
  | lxor =>
    obtain ⟨x, y, r, rfl, hn⟩ := xe_pLL_inv hn
    cases xe_on_inv hn
    exact lv_lxor hx hb (xe_dec_of hd rfl) (kk H locs ls hR hl)
  | ldiv =>
    obtain ⟨x, y, r, rfl, hn⟩ := xe_pLL_inv hn
    obtain ⟨h1, hn⟩ := xe_ifn_inv hn
    cases xe_on_inv hn
    exact lv_ldiv hx hb (xe_dec_of hd rfl) h1 (kk H locs ls hR hl)
  | lcmp =>
    obtain ⟨x, y, r, rfl, hn⟩ := xe_pLL_inv hn
    cases xe_on_inv hn
    exact W.lcmp hx hb (xe_dec_of hd rfl) (kk H locs ls hR hl)
  | lshl =>
    obtain ⟨x, y, r, rfl, hn⟩ := xe_pLI_inv hn
    cases xe_on_inv hn
    exact lv_lshl hx hb (xe_dec_of hd rfl) rfl (kk H locs ls hR hl)
  | lshr =>
    obtain ⟨x, y, r, rfl, hn⟩ := xe_pLI_inv hn
    cases xe_on_inv hn
    exact lv_lshr hx hb (xe_dec_of hd rfl) rfl (kk H locs ls hR hl)
  | lushr =>
    obtain ⟨x, y, r, rfl, hn⟩ := xe_pLI_inv hn
    cases xe_on_inv hn
    exact lv_lushr hx hb (xe_dec_of hd rfl) rfl (kk H locs ls hR hl)
  | dup =>
    obtain ⟨v, r, rfl, hn⟩ := xe_pA_inv hn
    obtain ⟨h1, hn⟩ := xe_if_inv hn
    cases xe_on_inv hn
    exact lv_dup hx hb (xe_dec_of hd rfl) (by rw [xe_v_cat]; exact h1) (kk H locs ls hR hl)
  | dup_x1 =>
    obtain ⟨v, r, rfl, hn⟩ := xe_pA_inv hn
    obtain ⟨w, r, rfl, hn⟩ := xe_pA_inv hn
    obtain ⟨⟨h1, h2⟩, hn⟩ := xe_if_inv hn
    cases xe_on_inv hn
    exact lv_dup_x1 hx hb (xe_dec_of hd rfl) (by rw [xe_v_cat]; exact h1) (by rw [xe_v_cat]; exact h2) (kk H locs ls hR hl)
  | dup_x2 =>
    obtain ⟨v, r, rfl, hn⟩ := xe_pA_inv hn
    obtain ⟨w, r, rfl, hn⟩ := xe_pA_inv hn
    obtain ⟨x, r, rfl, hn⟩ := xe_pA_inv hn
    obtain ⟨⟨h1, h2, h3⟩, hn⟩ := xe_if_inv hn
    cases xe_on_inv hn
    exact lv_dup_x2 hx hb (xe_dec_of hd rfl) (by rw [xe_v_cat]; exact h1) (by rw [xe_v_cat]; exact h2) (by rw [xe_v_cat]; exact h3) (kk H locs ls hR hl)
  | dup2 =>
    obtain ⟨v, r, rfl, hn⟩ := xe_pA_inv hn
    obtain ⟨w, r, rfl, hn⟩ := xe_pA_inv hn
    obtain ⟨⟨h1, h2⟩, hn⟩ := xe_if_inv hn
    cases xe_on_inv hn
    exact lv_dup2_11 hx hb (xe_dec_of hd rfl) (by rw [xe_v_cat]; exact h1) (by rw [xe_v_cat]; exact h2) (kk H locs ls hR hl)
  | pop =>
    obtain ⟨v, r, rfl, hn⟩ := xe_pA_inv hn
    obtain ⟨h1, hn⟩ := xe_if_inv hn
    cases xe_on_inv hn
    exact lv_pop hx hb (xe_dec_of hd rfl) (by rw [xe_v_cat]; exact h1) (kk H locs ls hR hl)
  | pop2 =>
    obtain ⟨v, r, rfl, hn⟩ := xe_pA_inv hn
    obtain ⟨h1, hn⟩ := xe_if_inv hn
    cases xe_on_inv hn
    exact lv_pop2_2 hx hb (xe_dec_of hd rfl) (by rw [xe_v_cat]; exact h1) (kk H locs ls hR hl)
  | goto off =>
    cases xe_on_inv hn
    exact lv_goto hx hb (xe_dec_of hd rfl) (of_decide_eq_true hw) (kk H locs ls hR hl)
  | ifCond k off =>
    obtain ⟨x, r, rfl, hm1⟩ := xe_p1_inv hn
    refine xe_wif hx hb (xe_dec_of hd rfl) (of_decide_eq_true hw) (fun q => ?_) (fun q => ?_)
    · rw [if_pos q] at hm1
      cases xe_on_inv hm1
      exact kk H locs ls hR hl
    · rw [if_neg q] at hm1
      cases xe_on_inv hm1
      exact kk H locs ls hR hl
  | if_icmp k off =>
    obtain ⟨x, y, r, rfl, hm1⟩ := xe_p2_inv hn
    refine xe_wicmp hx hb (xe_dec_of hd rfl) (of_decide_eq_true hw) (fun q => ?_) (fun q => ?_)
    · rw [if_pos q] at hm1
      cases xe_on_inv hm1
      exact kk H locs ls hR hl
    · rw [if_neg q] at hm1
      cases xe_on_inv hm1
      exact kk H locs ls hR hl
  | tableswitch dd lo hi offs =>
    obtain ⟨x, r, rfl, hm1⟩ := xe_p1_inv hn
    obtain ⟨len, hdg⟩ := xe_dec_sw hd
    dsimp only [xe_wd] at hw
    rw [Bool.and_eq_true, decide_eq_true_eq, decide_eq_true_eq] at hw
    by_cases q : x.toInt < lo ∨ hi < x.toInt
    · rw [if_pos q] at hm1
      cases xe_on_inv hm1
      exact lv_tableOut hx hb hdg q hw.1 (kk H locs ls hR hl)
    · rw [if_neg q] at hm1
      split at hm1
      · rename_i t ht
        cases xe_on_inv hm1
        have h1 : (offs.toList.map (fun o => (pc : Int) + o))[(x.toInt - lo).toNat]? = some (t : Int) := by rw [hw.2, List.getElem?_map, ht]; rfl
        rw [List.getElem?_map] at h1
        cases h2 : offs.toList[(x.toInt - lo).toNat]? with
        | none => rw [h2] at h1; cases h1
        | some o =>
          rw [h2] at h1
          exact lv_tableIn hx hb hdg (fun z => q (Or.inl z)) (fun z => q (Or.inr z)) (off := o) (by rw [← Array.getElem?_toList]; exact h2) (Option.some.inj h1) (kk H locs ls hR hl)
      · cases hm1
  | arraylength =>
    obtain ⟨a, r, rfl, hm1⟩ := xe_pR_inv hn
    split at hm1
    · rename_i n h1
      cases xe_on_inv hm1
      exact xe_walen F hR h1 (xe_dec_of hd rfl) (kk H locs ls hR hl)
    · cases hm1
  | iaload =>
    obtain ⟨a, i, r, rfl, hn⟩ := xe_pRI_inv hn
    obtain ⟨x, hn, h1⟩ := xe_gi_inv hn
    obtain ⟨h2, hn⟩ := xe_if_inv hn
    cases xe_on_inv hn
    rcases h1 with ⟨t, h3, h4⟩ | ⟨h3, h4⟩
    · exact xe_wild F hR h3 h4 h2 (xe_dec_of hd rfl) (kk H locs ls hR hl)
    · exact xe_wold F hR h3 h4 h2 (xe_dec_of hd rfl) (kk H locs ls hR hl)
  | baload =>
    obtain ⟨a, i, r, rfl, hn⟩ := xe_pRI_inv hn
    obtain ⟨t, x, hn, h3, h4⟩ := xe_gw_inv hn
    obtain ⟨h2, hn⟩ := xe_if_inv hn
    cases xe_on_inv hn
    exact xe_wbld F hR h3 h4 h2 (xe_dec_of hd rfl) (kk H locs ls hR hl)
  | laload =>
    obtain ⟨a, i, r, rfl, hn⟩ := xe_pRI_inv hn
    obtain ⟨t, x, hn, h3, h4⟩ := xe_gl_inv hn
    obtain ⟨h2, hn⟩ := xe_if_inv hn
    cases xe_on_inv hn
    exact xe_wlld F hR h3 h4 h2 (xe_dec_of hd rfl) (kk H locs ls hR hl)
  | aaload =>
    obtain ⟨a, i, r, rfl, hn⟩ := xe_pRI_inv hn
    obtain ⟨t, C, x, hn, h3, h4⟩ := xe_gq_inv hn
    obtain ⟨h2, hn⟩ := xe_if_inv hn
    cases xe_on_inv hn
    exact xe_wald F hR h3 h4 h2 (xe_dec_of hd rfl) (kk H locs ls hR hl)
  | iastore =>
    obtain ⟨v, r, rfl, hn⟩ := xe_p1_inv hn
    obtain ⟨a, i, r, rfl, hn⟩ := xe_pRI_inv hn
    obtain ⟨t, x, hn, h3, h4⟩ := xe_gw_inv hn
    obtain ⟨h2, hn⟩ := xe_if_inv hn
    cases xe_on_inv hn
    have hsz : xe_sz (h.set a (.inl (t, .inl (x.set i.toNatClampNeg v)))) = xe_sz h := xe_sz_set h3 (by simp [xe_w])
    dsimp only at kk
    rw [hsz, List.length_set] at kk
    exact xe_wist F hR h3 h4 h2 (xe_dec_of hd rfl) (fun H1 locs1 hR1 => kk H1 locs1 ls hR1 hl)
  | bastore =>
    obtain ⟨v, r, rfl, hn⟩ := xe_p1_inv hn
    obtain ⟨a, i, r, rfl, hn⟩ := xe_pRI_inv hn
    obtain ⟨t, x, hn, h3, h4⟩ := xe_gw_inv hn
    obtain ⟨h2, hn⟩ := xe_if_inv hn
    cases xe_on_inv hn
    have hsz : xe_sz (h.set a (.inl (t, .inl (x.set i.toNatClampNeg (vp_nar .boolean v))))) = xe_sz h := xe_sz_set h3 (by simp [xe_w])
    dsimp only at kk
    rw [hsz, List.length_set] at kk
    exact xe_wbst F hR h3 h4 h2 (xe_dec_of hd rfl) (fun H1 locs1 hR1 => kk H1 locs1 ls hR1 hl)
  | lastore =>
    obtain ⟨v, r, rfl, hn⟩ := xe_pL_inv hn
    obtain ⟨a, i, r, rfl, hn⟩ := xe_pRI_inv hn
    obtain ⟨t, x, hn, h3, h4⟩ := xe_gl_inv hn
    obtain ⟨h2, hn⟩ := xe_if_inv hn
    cases xe_on_inv hn
    have hsz : xe_sz (h.set a (.inl (t, .inr (.inl (x.set i.toNatClampNeg v))))) = xe_sz h := xe_sz_set h3 (by simp [xe_w])
    dsimp only at kk
    rw [hsz, List.length_set] at kk
    exact xe_wlst F hR h3 h4 h2 (xe_dec_of hd rfl) (fun H1 locs1 hR1 => kk H1 locs1 ls hR1 hl)
  | aastore =>
    obtain ⟨b, r, rfl, hm1⟩ := xe_pR_inv hn
    obtain ⟨a, i, r, rfl, hm2⟩ := xe_pRI_inv hm1
    obtain ⟨t, C, x, hm3, h3, h4⟩ := xe_gq_inv hm2
    split at hm3
    · rename_i ci fs h5
      obtain ⟨⟨h6, h2⟩, hm4⟩ := xe_if_inv hm3
      cases xe_on_inv hm4
      have hsz : xe_sz (h.set a (.inl (t, .inr (.inr (x.set i.toNatClampNeg (some b)))))) = xe_sz h := xe_sz_set h3 (by simp [xe_w])
      dsimp only at kk
      rw [hsz, List.length_set] at kk
      cases hq : xe_cls[ci]? with
      | none => rw [hq] at h6; cases h6
      | some q =>
        rw [hq] at h6
        have hC : q.1 = C := Option.some.inj h6
        exact xe_wast F hR h3 (by rw [hC]; exact h4) h5 hq h2 (xe_dec_of hd rfl) (fun H1 locs1 hR1 => kk H1 locs1 ls hR1 hl)
    · cases hm3
  | getfield idx =>
    obtain ⟨a, r, rfl, hm1⟩ := xe_pR_inv hn
    obtain ⟨fs, hm2, h1⟩ := xe_go_inv hm1
    split at hm2
    · rename_i v h2
      cases xe_on_inv hm2
      dsimp only [xe_wd] at hw
      split at hw
      · rename_i C T N hq
        rw [Bool.and_eq_true, decide_eq_true_eq] at hw
        exact xe_wget F hR h1 hq hw.1 (xe_cok hq).1 (xe_fl_of hw.2) h2 (xe_dec_of hd rfl) (kk H locs ls hR hl)
      · cases hw
    · cases hm2
  | putfield idx =>
    obtain ⟨v, r, rfl, hm1⟩ := xe_pA_inv hn
    obtain ⟨a, r, rfl, hm2⟩ := xe_pR_inv hm1
    obtain ⟨fs, hm3, h1⟩ := xe_go_inv hm2
    split at hm3
    · rename_i ty h2
      obtain ⟨⟨h3, h4, h5⟩, hm4⟩ := xe_if_inv hm3
      cases xe_on_inv hm4
      have hsz : xe_sz (h.set a (.inr (ax.headD 0, fs.set (ax.getD 1 0) v))) = xe_sz h := xe_sz_set h1 (by simp [xe_w])
      dsimp only at kk
      rw [hsz, List.length_set] at kk
      dsimp only [xe_wd] at hw
      split at hw
      · rename_i C T N hq
        rw [Bool.and_eq_true, decide_eq_true_eq] at hw
        obtain ⟨hk, hw⟩ := hw
        obtain ⟨c1, c2, c3, c4, c5, c6⟩ := xe_cok hq
        refine xe_wput F hR h1 hq hk c1 _ c5 c6 ?_ (ty := ty) ?_ h3 h4 h5 (xe_dec_of hd rfl) (fun H1 locs1 hR1 => kk H1 locs1 ls hR1 hl)
        · split at hw
          · rename_i hf
            rw [Bool.and_eq_true, Bool.and_eq_true, decide_eq_true_eq, decide_eq_true_eq] at hw
            exact Or.inr ⟨hf, hw.1.1, hw.1.2, xe_in_of hw.2⟩
          · rename_i hf
            exact Or.inl ⟨by simpa using hf, xe_fl_of hw⟩
        · rw [c5 _ hk]
          unfold xe_fty at h2
          rw [List.getD_eq_getElem?_getD, h2]
          rfl
      · cases hw
    · cases hm3
  | getstatic idx =>
    cases xe_on_inv hn
    dsimp only [xe_wd] at hw
    split at hw
    · rename_i z hz
      have e1 := List.find?_some hz
      have e2 := List.mem_of_find?_eq_some hz
      obtain ⟨C, n, d, j⟩ := z
      have e3 : j = ax.headD 0 := by simpa using e1
      subst e3
      have hlt : ¬ (xe_o + ax.headD 0 < xe_o) := by omega
      have hq := kk H locs ls hR hl
      have e4 : xe_v (xe_ad base old) (.ref (xe_o + ax.headD 0)) = .ref (old (ax.headD 0)) := by
        show Value.ref (xe_ad base old _) = _
        rw [xe_ad_ge hlt, Nat.add_sub_cancel_left]
      dsimp only at hq
      rw [List.map_cons, e4] at hq
      exact xe_wgs F hR e2 (xe_fl_of hw) (xe_dec_of hd rfl) hq
    · cases hw
  | new idx =>
    obtain ⟨h1, hn⟩ := xe_if_inv hn
    cases xe_on_inv hn
    dsimp only [xe_wd] at hw
    split at hw
    · rename_i C T N hq
      obtain ⟨c1, c2, c3, c4, c5, c6⟩ := xe_cok hq
      dsimp only at kk hc hs
      have hl1 : (h ++ [Sum.inr (ax.headD 0, xe_dv (ax.headD 0))] : xe_H).length = h.length + 1 := by simp
      have hl2 : (xe_dv (ax.headD 0)).length = N := by rw [xe_dv, List.length_map]; exact c4
      have hs1 : xe_sz (h ++ [Sum.inr (ax.headD 0, xe_dv (ax.headD 0))]) = xe_sz h + N := by rw [xe_sz_push]; exact congrArg (xe_sz h + ·) hl2
      rw [hl1] at hc kk
      rw [hs1] at hs kk
      refine xe_wnew F hR h1 hq c1 _ c5 (xe_in_of hw) c2 c3 ?_ (by omega) (by omega) (xe_dec_of hd rfl) (fun H1 hR1 => W.widen (k := h.length + 1 - n0) (n := xe_sz h + N - z0) (by omega) (by omega) (kk H1 locs ls hR1 hl))
      intro j hj
      have hj2 : (xe_ft.getD (ax.headD 0) [])[j]? = some ((xe_ft.getD (ax.headD 0) [])[j]'(by omega)) := List.getElem?_eq_getElem (by omega)
      have e5 : (xe_ft.getD (ax.headD 0) []).getD j .int = (xe_ft.getD (ax.headD 0) [])[j]'(by omega) := by rw [List.getD_eq_getElem?_getD (l := xe_ft.getD (ax.headD 0) []), hj2]; rfl
      rw [e5]
      unfold vp_V xe_dv
      rw [List.map_map, List.getD_eq_getElem?_getD (l := List.map _ _), List.getElem?_map, hj2]
      exact (xe_v_dv _ _).symm
    · cases hw
  | newarray aty =>
    obtain ⟨n, r, rfl, hm1⟩ := xe_p1_inv hn
    obtain ⟨⟨h1, h2, h3⟩, hm2⟩ := xe_if_inv hm1
    dsimp only [xe_wd] at hw
    rw [Bool.and_eq_true, decide_eq_true_eq] at hw
    obtain ⟨w1, w2⟩ := hw
    have done : ∀ (x : xe_A), xe_w (.inl (ax.headD 0, x)) = n.toNatClampNeg → (∀ cI : ClassId, vp_cell cI (xe_a (xe_ad base old) x) = arrV cI n.toNatClampNeg (fun _ => defaultValue (newarray.typeOf aty))) → (∀ U cA, va_RA U cA (newarray.typeOf aty) → U.vm.findClass ("[" ++ (newarray.typeOf aty).toString) = some cA) → componentBytes (newarray.typeOf aty) ≤ 8 → xe_on (pc + 2, lv, Value.ref h.length :: r, h ++ [.inl (ax.headD 0, x)]) = some (.inl S') → W p l e R s m args below meth c H locs (h.length - n0) (xe_sz h - z0) Q (F0 m pc ls ((.int n :: r).map (xe_v (xe_ad base old)))) := by
      intro x hx1 hx2 hx3 hx4 hm2
      cases xe_on_inv hm2
      dsimp only at kk hc hs
      have hl1 : (h ++ [Sum.inl (ax.headD 0, x)] : xe_H).length = h.length + 1 := by simp
      have hs1 : xe_sz (h ++ [Sum.inl (ax.headD 0, x)]) = xe_sz h + n.toNatClampNeg := by rw [xe_sz_push, hx1]
      rw [hl1] at hc kk
      rw [hs1] at hs kk
      exact xe_wnewa F hR h1 rfl w1 hx3 (xe_in_of w2) h2 h3 hx2 hx4 (by omega) (by omega) (xe_dec_of hd rfl) (fun H1 hR1 => W.widen (k := h.length + 1 - n0) (n := xe_sz h + n.toNatClampNeg - z0) (by omega) (by omega) (kk H1 locs ls hR1 hl))
    cases aty with
    | int => exact done _ (by simp [xe_w]) (fun cI => by simp only [xe_ci, xe_cl, List.length_replicate, xe_rep]; rfl) (fun U cA q => q) (by decide) hm2
    | boolean => exact done _ (by simp [xe_w]) (fun cI => by simp only [xe_ci, xe_cl, List.length_replicate, xe_rep]; rfl) (fun U cA q => q) (by decide) hm2
    | long => exact done _ (by simp [xe_w]) (fun cI => by simp only [xe_ci, xe_cl, List.length_replicate, xe_rep]; rfl) (fun U cA q => q) (by decide) hm2
    | _ => cases hm2
  | anewarray idx =>
    obtain ⟨n, r, rfl, hm1⟩ := xe_p1_inv hn
    obtain ⟨⟨h1, h2, h3⟩, hm2⟩ := xe_if_inv hm1
    cases xe_on_inv hm2
    dsimp only [xe_wd] at hw
    split at hw
    · rename_i C hq
      rw [Bool.and_eq_true, decide_eq_true_eq] at hw
      dsimp only at kk hc hs
      have hl1 : (h ++ [Sum.inl (ax.headD 0, .inr (.inr (List.replicate n.toNatClampNeg none)))] : xe_H).length = h.length + 1 := by simp
      have hs1 : xe_sz (h ++ [Sum.inl (ax.headD 0, .inr (.inr (List.replicate n.toNatClampNeg none)))]) = xe_sz h + n.toNatClampNeg := by rw [xe_sz_push]; simp [xe_w]
      rw [hl1] at hc kk
      rw [hs1] at hs kk
      exact xe_wanew F hR h1 hq (xe_in_of hw.1) hw.2 h2 h3 (by omega) (by omega) (xe_dec_of hd rfl) (fun H1 hR1 => W.widen (k := h.length + 1 - n0) (n := xe_sz h + n.toNatClampNeg - z0) (by omega) (by omega) (kk H1 locs ls hR1 hl))
    · cases hw
  | return_ =>
    obtain ⟨h1, hn⟩ := xe_if_inv hn
    cases hn
  | ireturn =>
    dsimp only [xe_i] at hn
    split at hn
    · split at hn
      · obtain ⟨h1, hn⟩ := xe_if_inv hn
        cases hn
      · cases hn
    · cases hn
  | lreturn =>
    dsimp only [xe_i] at hn
    split at hn
    · obtain ⟨h1, hn⟩ := xe_if_inv hn
      cases hn
    · cases hn
  | areturn =>
    dsimp only [xe_i] at hn
    split at hn
    · obtain ⟨h1, hn⟩ := xe_if_inv hn
      cases hn
    · cases hn
  | invokestatic idx =>
    obtain ⟨h1, hn⟩ := xe_if_inv hn
    cases hn
  | invokevirtual idx =>
    obtain ⟨b, r, h1, hn⟩ := xe_pR_inv hn
    obtain ⟨fs, hn, h2⟩ := xe_go_inv hn
    obtain ⟨h3, hn⟩ := xe_if_inv hn
    cases hn
  | invokespecial idx =>
    obtain ⟨b, r, h1, hn⟩ := xe_pR_inv hn
    obtain ⟨h3, hn⟩ := xe_if_inv hn
    by_cases q : ax.headD 0 = 0
    · rw [if_pos q] at hn
      cases xe_on_inv hn
      dsimp only [xe_wd] at hw
      rw [if_pos q, Bool.and_eq_true, beq_iff_eq] at hw
      rw [hw.2, List.drop_zero] at h1
      subst h1
      exact W.objInit hx hb hown (hts _ (xe_in_of hw.1)) (hts _ xe_ob1) (hts _ xe_ob2) rfl (hl.1.trans hml.symm) rfl (xe_dec_of hd rfl) hfr (by have := lv_room (m := m) (pc := pc) (ls := ls) (rest := []) (st := r.map (xe_v (xe_ad base old))) (by rw [xe_cats]; exact h3); show 2 * 0 + _ + 12 ≤ _; omega) (kk H locs ls hR hl)
    · rw [if_neg q] at hn
      cases hn
  | _ => cases hn
end XES
