theorem xe_dec_of {mi pc : Nat} {i : Instr} (h : xe_dec mi pc i = true) (hs : xe_sw i = false) : decode (xe_mB mi) pc = .ok (i, xe_ln i) := by
  unfold xe_dec at h
  split at h
  · rename_i j n hq
    simp only [hs, Bool.false_or, Bool.and_eq_true, decide_eq_true_eq, beq_iff_eq] at h
    obtain ⟨rfl, rfl⟩ := h
    exact hq
  · cases h
theorem xe_dec_sw {mi pc : Nat} {i : Instr} (h : xe_dec mi pc i = true) : ∃ n, decode (xe_mB mi) pc = .ok (i, n) := by
  unfold xe_dec at h
  split at h
  · rename_i j n hq
    simp only [Bool.and_eq_true, decide_eq_true_eq] at h
    obtain ⟨rfl, -⟩ := h
    exact ⟨n, hq⟩
  · cases h
section XEI
variable {p : Program} {l : Launch} {e : Env} {R : Room} {s : State} {m : MethodId} {args : Array Value} {below : List Frame} {meth : Method} {c : Code} {H : Heap} {locs : List Loc} {cells slots : Nat} {Q : State → Prop}
variable {cc : ByteArray} {pc : Nat} {ls : Array Slot} {rest : List Value}
theorem xe_wif (hx : p.tables.exec = Jvm.exec) (hb : c.code = cc) {k : ClassFile.Cond} {x : Int32} {off : Int} {tgt : Nat} (hdg : decode cc pc = .ok (.ifCond k off, 3)) (ht : (pc : Int) + off = (tgt : Int))
    (kt : xe_cmp k x 0 = true → W p l e R s m args below meth c H locs cells slots Q (F0 m tgt ls rest)) (kf : ¬ xe_cmp k x 0 = true → W p l e R s m args below meth c H locs cells slots Q (F0 m (pc + 3) ls rest)) : W p l e R s m args below meth c H locs cells slots Q (F0 m pc ls (.int x :: rest)) := by
  cases k with
  | eq => exact lv_if_eq hx hb hdg ht (fun z => kt (by simp [xe_cmp, z])) (fun z => kf (by simp [xe_cmp, z]))
  | ne => exact lv_if_ne hx hb hdg ht (fun z => kt (by simp [xe_cmp, z])) (fun z => kf (by simp [xe_cmp, z]))
  | lt => exact lv_if_lt hx hb hdg ht (fun z => kt (decide_eq_true z)) (fun z => kf (fun q => z (of_decide_eq_true q)))
  | ge => exact lv_if_ge hx hb hdg ht (fun z => kt (decide_eq_true z)) (fun z => kf (fun q => z (of_decide_eq_true q)))
  | gt => exact lv_if_gt hx hb hdg ht (fun z => kt (decide_eq_true z)) (fun z => kf (fun q => z (of_decide_eq_true q)))
  | le => exact lv_if_le hx hb hdg ht (fun z => kt (decide_eq_true z)) (fun z => kf (fun q => z (of_decide_eq_true q)))
theorem xe_wicmp (hx : p.tables.exec = Jvm.exec) (hb : c.code = cc) {k : ClassFile.Cond} {x y : Int32} {off : Int} {tgt : Nat} (hdg : decode cc pc = .ok (.if_icmp k off, 3)) (ht : (pc : Int) + off = (tgt : Int))
    (kt : xe_cmp k x y = true → W p l e R s m args below meth c H locs cells slots Q (F0 m tgt ls rest)) (kf : ¬ xe_cmp k x y = true → W p l e R s m args below meth c H locs cells slots Q (F0 m (pc + 3) ls rest)) : W p l e R s m args below meth c H locs cells slots Q (F0 m pc ls (.int y :: .int x :: rest)) := by
  cases k with
  | eq => exact lv_icmp_eq hx hb hdg ht (fun z => kt (by simp [xe_cmp, z])) (fun z => kf (by simp [xe_cmp, z]))
  | ne => exact lv_icmp_ne hx hb hdg ht (fun z => kt (by simp [xe_cmp, z])) (fun z => kf (by simp [xe_cmp, z]))
  | lt => exact lv_icmp_lt hx hb hdg ht (fun z => kt (decide_eq_true z)) (fun z => kf (fun q => z (of_decide_eq_true q)))
  | ge => exact lv_icmp_ge hx hb hdg ht (fun z => kt (decide_eq_true z)) (fun z => kf (fun q => z (of_decide_eq_true q)))
  | gt => exact lv_icmp_gt hx hb hdg ht (fun z => kt (decide_eq_true z)) (fun z => kf (fun q => z (of_decide_eq_true q)))
  | le => exact lv_icmp_le hx hb hdg ht (fun z => kt (decide_eq_true z)) (fun z => kf (fun q => z (of_decide_eq_true q)))
end XEI
