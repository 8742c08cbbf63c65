/-! A throw caught by the one row of the method's table, its class linked or not yet (after the library's road for longer tables) -/
theorem xo_go {Q : Handler → Pre} {E : CtlPost} {e : Env} {d : Bool} {acts : List Action} {s : State} {f : JFrame} {a : Addr} {x : ExceptionTableEntry} {c : ClassId} {cell : Cell} (hx : covers x f.pc = true) (h0 : x.catchType ≠ 0) (hl : s.vm.ClassLinks e.platform f.method.cls x.catchType c) (hcell : s.heap[a]? = some cell) (hobj : ∀ k, cell.vm ≠ .statics k) (hk : ∃ k, s.vm.classes[cell.cls]? = some k) (hc : ∃ k, s.vm.classes[c]? = some k) (hfit : s.vm.assignable cell.cls c = true) :
    wp (findHandler.go f a [x]) Q E e d acts s ↔ Q (.found x.handlerPc) d acts (s.setVm (s.vm.noted f.method.cls x.catchType (.cls c))) := by
  simp only [covers] at hx
  obtain ⟨ha, ht⟩ := (resolveClass_links e.toSetting hl).op (op := VmOp.resolveClass f.method.cls x.catchType) rfl
  have hal : s.vm.Alike (s.vm.noted f.method.cls x.catchType (.cls c)) := (Vm.Alike.refl s.vm).noted _ _ _
  obtain ⟨k1, hk1⟩ := hk
  obtain ⟨k2, hk2⟩ := hc
  obtain ⟨k1', hk1', -⟩ := hal.2.2 _ _ hk1
  obtain ⟨k2', hk2', -⟩ := hal.2.2 _ _ hk2
  have hfit' : (s.vm.noted f.method.cls x.catchType (.cls c)).assignable cell.cls c = true := by rw [hal.assignable]; exact hfit
  simp [findHandler.go, hx, h0, ha, ht, hcell, hobj, hk1', hk2', hfit', VmOp.dirties, VmOp.acts]
theorem xo_thrown {e : Env} {s : State} {a : Addr} {f : JFrame} {r : List Frame} {pc : Nat} {vm' : Vm} (hfind : ∀ (Q : Handler → Pre) (E : CtlPost) (d : Bool) (acts : List Action), wp (findHandler f a) Q E e d acts s ↔ Q (.found pc) d acts (s.setVm vm')) :
    (stepThrowing e s a (.java f :: r)).Is ((s.setVm vm').setFrames (.java { f with pc := pc, stack := [.ref a] } :: r)) [] := by
  simp only [stepThrowing, searchFrame, vmDo]
  generalize hr : Sem.go _ e false [] s = res
  obtain ⟨as, rfl, ha⟩ := Sem.eq_ok_of hr (a := Handler.found pc) (s' := s.setVm vm') (acts' := []) (by simp [hfind _ _ _ _])
  exact ⟨rfl, ha⟩
theorem xo_frames (u : State) (vm' : Vm) (F G : List Frame) : ((u.setFrames F).setVm vm').setFrames G = (u.setVm vm').setFrames G := by
  have h1 : (u.setFrames F).setVm vm' = (u.setVm vm').setFrames F := rfl
  rw [h1, State.setFrames_setFrames]
theorem xo_steps {tb : Tables} {e : Env} {s target : State} {g : JFrame} {c : Code} {below : List Frame} {a : Addr} (h : At s g.method c below) {pc : Nat} {vm' : Vm} (hfind : ∀ (Q : Handler → Pre) (E : CtlPost) (d : Bool) (acts : List Action), wp (findHandler g a) Q E e d acts ((s.setTop g).pushFrame (.throwing a)) ↔ Q (.found pc) d acts (((s.setTop g).pushFrame (.throwing a)).setVm vm'))
    (hrest : Steps tb e below ((s.setVm vm').setTop { g with pc := pc, stack := [.ref a] }) target) : Steps tb e below ((s.setTop g).pushFrame (.throwing a)) target := by
  obtain ⟨hgo, hw⟩ := h.throwing a
  refine Steps.head hgo hw ?_
  rw [stepThread_throwing (frames_entered h.top _), (xo_thrown (s := (s.setTop g).pushFrame (.throwing a)) hfind).1]
  obtain ⟨g₀, hg⟩ := Option.isSome_iff_exists.mp h.top
  obtain ⟨r, hr⟩ := State.topJava?_eq_some.mp hg
  have hr' : (s.setVm vm').frames = .java g₀ :: r := hr
  rw [State.setTop_of_frames _ hr'] at hrest
  rw [hr, List.tail_cons, State.pushFrame, xo_frames, State.setTop_of_frames _ hr, xo_frames]
  exact hrest
theorem xo_catch {p : Program} {l : Launch} {e : Env} {R : Room} {s : State} {m : MethodId} {args : Array Value} {below : List Frame} {meth : Method} {c : Code} {H : Heap} {locs : List Loc} {cells slots : Nat} {Q : State → Prop} {pc : Nat} {ls : Array Slot} {rest : List Value} {own name E : String} {ce : Cell} {q : Addr} (hown : s.vm.findClass own = some m.cls) (x : ExceptionTableEntry) (hone : c.exceptionTable.toList = [x]) (hx : covers x pc = true) (h0 : x.catchType ≠ 0)
    (hlink : (Cond.classLink own x.catchType name).before args s = true) (hcast : (Cond.castable E name).before args s = true) (hcell : H[q]? = some ce) (hv : ce.vm = .none) (hcl : s.vm.findClass E = some ce.cls)
    (kk : W p l e R s m args below meth c H locs cells slots Q (F0 m x.handlerPc ls [.ref q])) : vx_W p l e R s m args below meth c H locs cells slots Q (F0 m pc ls rest) q := by
  intro T hT X
  have hpl : e.platform.magicAccessors = ({} : Platform).magicAccessors := by rw [X.admits.platform]
  obtain ⟨c3, c4, hc3, hc4, hasg⟩ := Cond.castable_spec hcast
  cases Option.some.inj (hc3.symm.trans hcl)
  obtain ⟨c5, hc5, hcl5⟩ := Cond.classLink_spec hown hlink e.platform hpl
  cases Option.some.inj (hc4.symm.trans hc5)
  obtain ⟨dk, _, _, kt, hd, _, _, _, _, hkt, _, hopen⟩ := hcl5.here
  have hcl₀ := X.warmed.classLinks hcl5
  have hW' : s.WarmedH (T.vm.noted m.cls x.catchType (.cls c4)) := X.warmed.noted hd hopen (State.rightAt_cls hcl5)
  have hal := X.warmed.alike
  obtain ⟨kt', hkt', -⟩ := hal.2.2 _ _ hkt
  have hfit' : T.vm.assignable ce.cls c4 = true := by rw [hal.assignable]; exact hasg
  have hcell' : T.heap[q]? = some ce := by rw [hT]; exact hcell
  obtain ⟨t, a1, b1⟩ := kk (T.setVm (T.vm.noted m.cls x.catchType (.cls c4))) hT (X.noted hW')
  refine ⟨t, ?_, b1⟩
  refine xo_steps (g := F0 m pc ls rest) X.here (fun Q E d acts => ?_) a1
  rw [_root_.Jvm.W.findHandler_eq (meth := meth) (code := c) X.method' X.code, hone]
  exact xo_go (s := (T.setTop (F0 m pc ls rest)).pushFrame (.throwing q)) (c := c4) (cell := ce) hx h0 hcl₀ hcell' (VmData.ne_statics_of (by rw [hv]; rfl)) (Vm.classAt_of_assignable hfit' ⟨kt', hkt'⟩) ⟨kt', hkt'⟩ hfit'
/-! What a throw of DampHouse.off needs of the world -/
def xo_E : String := "java/lang/IllegalArgumentException"
def xo_N : List String := ["java/lang/RuntimeException", "java/lang/Exception"]
def xo_tx : String := "other bits than of the first causes"
def xo_K (base : Nat) (U : State) : Prop := vx_Zq Bundle.tN "UNASSIGNED_STACK" Bundle.steD (fun q => base ≤ q) U U.heap ∧ vx_Zq Bundle.tN "SUPPRESSED_SENTINEL" Bundle.listD (fun q => base ≤ q) U U.heap ∧ (∃ sa, vk_R "DampHouse" 195 xo_tx sa U) ∧ va_Nw (.castable xo_E xo_E) U ∧ va_Nw (.declares (Bundle.initS "java/lang/RuntimeException")) U ∧ va_Nw (.declares (Bundle.initS "java/lang/Exception")) U ∧ va_Nw (.declares (Bundle.initS Bundle.tN)) U
theorem xo_K.to {base : Nat} {s U : State} (h : xo_K base s) (hW : s.WarmedH U.vm) (hq : ∀ q : Nat, q < s.heap.size → ¬ base ≤ q → U.heap[q]? = s.heap[q]?) : xo_K base U := by
  obtain ⟨h1, h2, ⟨sa, h3⟩, h4, h5, h6, h7⟩ := h
  exact ⟨(vx_Zq.moved hW.alike h1).kept hq, (vx_Zq.moved hW.alike h2).kept hq, ⟨sa, vk_R.warm hW h3⟩, va_Nw.warmC hW h4, va_Nw.warmD hW h5, va_Nw.warmD hW h6, va_Nw.warmD hW h7⟩
def xo_B : List Jvm.Cond := [Jvm.Cond.castable xo_E xo_E, Jvm.Cond.declares (Bundle.initS "java/lang/RuntimeException"), Jvm.Cond.declares (Bundle.initS "java/lang/Exception"), Jvm.Cond.declares (Bundle.initS Bundle.tN)]
theorem xo_in : ∀ w ∈ (vx_atS "DampHouse" 197 xo_E xo_N).filter goodWord, w ∈ xe_G := by decide +kernel
theorem xo_non : ∀ w ∈ (vx_atS "DampHouse" 197 xo_E xo_N).filter (fun w => !goodWord w), w ∈ xo_B := by decide +kernel
theorem xo_good : ∀ w ∈ Jvm.Cond.classLink "DampHouse" 193 xo_E :: Jvm.Cond.initialized xo_E :: vx_atS "DampHouse" 197 xo_E xo_N, vx_ot w = true := by decide +kernel
theorem xo_w1 : Jvm.Cond.classLink "DampHouse" 193 xo_E ∈ xe_G := by decide +kernel
theorem xo_w2 : Jvm.Cond.initialized xo_E ∈ xe_G := by decide +kernel
theorem xo_w3 : Jvm.Cond.methodLink "DampHouseLaw" 7 (xe_mY 193) ∈ xe_G := by decide +kernel
theorem xo_w4 : Jvm.Cond.classLink "DampHouseLaw" 13 xo_E ∈ xe_G := by decide +kernel
theorem xo_w5 : Jvm.Cond.methodLink "DampHouseLaw" 81 (xe_mY 194) ∈ xe_G := by decide +kernel
theorem xo_w6 : Jvm.Cond.static (xe_mY 194) ∈ xe_G := by decide +kernel
theorem xo_w7 : Jvm.Cond.initialized (xe_mY 194).cls ∈ xe_G := by decide +kernel
theorem xo_w8 : Jvm.Cond.codeWith (xe_mY 194) (xe_mB 194) 4 (some .int) [(0, 8, 11, 13)] ∈ xe_G := by decide +kernel
def xo_Pc (ov : List (List Int32)) (D : va_G) (cA : Nat → ClassId) (old : Nat → Nat) (base : Nat) (as : List Value) (h : xe_H) : Array Value → State → Prop := fun v U => xe_Pc ov D cA old base as h v U ∧ xo_K base U
theorem xo_Pc.blind {ov : List (List Int32)} {D : va_G} {cA : Nat → ClassId} {old : Nat → Nat} {base : Nat} {as : List Value} {h : xe_H} : FrameBlind (xo_Pc ov D cA old base as h) := by
  intro a U g mk q
  exact ⟨xe_Pc.blind _ _ _ _ q.1, q.2.to (State.WarmedH.refl U) (fun _ _ _ => rfl)⟩
def xe_J0 : xe_J := fun _ _ _ _ => none
theorem xe_J0ok {ov : List (List Int32)} {l : Launch} : xe_Jok xe_J0 ov l := by
  intro d mj as h r h' hq
  cases hq
def xo_e : xe_E := .inr (99, [.null, .null, .null, .null, .null, .null])
theorem xo_throwS {p : Program} {l : Launch} {e : Env} {R : Room} {s : State} {m : MethodId} {args : Array Value} {below : List Frame} {meth : Method} {c : Code} {H : Heap} {locs : List Loc} {cells slots : Nat} {free : Addr → Prop} {ls : Array Slot} {rest : List Value} {Qc : Array Value → State → Outcome → State → Prop} {XC : String → State → State → Prop} {cc : ByteArray} {pc : Nat} (hexec : p.tables.exec = Jvm.exec) (hb : c.code = cc) (hl : l.stackTraces = false) {own cls text : String} {names : List String} {ik is ic mc ms sa : Nat} {A : Nat → Prop}
    (hown : s.vm.findClass own = some m.cls) (hcls : Bundle.fit cls = true) (hnames : ∀ n ∈ names, Bundle.fit n = true)
    (hk : (Cond.classLink own ik cls).before args s = true) (hini : (Cond.initialized cls).before args s = true) (hstr : vk_R own is text sa s) (hat : ∀ w ∈ vx_atS own ic cls names, w.before args s = true)
    (hgood : ∀ w ∈ Cond.classLink own ik cls :: Cond.initialized cls :: vx_atS own ic cls names, vx_ot w = true)
    (hU : vx_Zq Bundle.tN "UNASSIGNED_STACK" Bundle.steD A s s.heap) (hN : vx_Zq Bundle.tN "SUPPRESSED_SENTINEL" Bundle.listD A s s.heap) (hS : va_S A s.heap H locs) (hsize : ls.size = c.maxLocals)
    (d0 : decode cc pc = .ok (.new ik, 3)) (d3 : decode cc (pc + 3) = .ok (.dup, 1)) (d4 : decode cc (pc + 4) = .ok (.ldc is, 2)) (d6 : decode cc (pc + 6) = .ok (.invokespecial ic, 3)) (d9 : decode cc (pc + 9) = .ok (.athrow, 1))
    (hout : ∀ x ∈ c.exceptionTable.toList, covers x (pc + 9) = false)
    (hRframes : names.length + 3 < R.frames) (hRlocals : (rest.map fun v => v.category).sum + (13 * (names.length + 1) + 43) ≤ R.locals) (hRcells : cells + 1 ≤ R.cells) (hRslots : slots + 6 ≤ R.slots) (hlocks : meth.locks = false)
    (hx : ∀ t : State, s.vm.Alike t.vm → H.size < t.heap.size → (∀ q : Nat, q < H.size → t.heap[q]? = H[q]?) → XC cls s t)
    (hf : ∀ z ∈ locs, free z.base) (hc : cells + 1 ≤ mc) (hs : slots + 6 ≤ ms) :
    W p l e R s m args below meth c H locs cells slots (vx_MQ below Qc XC args s mc ms free) (F0 m pc ls rest) := by
  intro T hT X
  have htr : e.platform.stackTraces = false := (show e.platform.stackTraces = l.stackTraces by rw [X.admits.platform]).trans hl
  have Y := vx_rebase X (R' := { frames := R.frames, locals := R.locals, cells := 1, slots := 6 }) (Nat.le_refl _) (Nat.le_refl _) hRcells hRslots
  obtain ⟨s', hA⟩ : ∃ z, z = (T.setVm s.vm).setFrames (.invoking m args :: below) := ⟨_, rfl⟩
  rw [← hA] at Y
  have hvm : s'.vm = s.vm := by rw [hA]; rfl
  have hhp : s'.heap = H := by rw [hA]; exact hT
  have hW0 : s.WarmedH s'.vm := by rw [hvm]; exact State.WarmedH.refl s
  have hat' : ∀ w ∈ vx_atS own ic cls names, w.before args s' = true := fun w hw => vx_ot_at hW0 hvm.symm (hgood w (List.mem_cons_of_mem _ (List.mem_cons_of_mem _ hw))) (hat w hw)
  have hk' : (Cond.classLink own ik cls).before args s' = true := vx_ot_at hW0 hvm.symm (hgood _ List.mem_cons_self) hk
  have hini' : (Cond.initialized cls).before args s' = true := vx_ot_at hW0 hvm.symm (hgood _ (List.mem_cons_of_mem _ List.mem_cons_self)) hini
  have hU' : vx_Zq Bundle.tN "UNASSIGNED_STACK" Bundle.steD A s' s'.heap := by rw [hhp]; exact vx_Zq.moved hW0.alike (hU.kept hS.2.1)
  have hN' : vx_Zq Bundle.tN "SUPPRESSED_SENTINEL" Bundle.listD A s' s'.heap := by rw [hhp]; exact vx_Zq.moved hW0.alike (hN.kept hS.2.1)
  have h : ∀ w ∈ Bundle.ownAtoms own ic cls names, w.before args s' = true := vx_own hat' (vx_isRefq hU'.1) (vx_isRefq hN'.1) hU'.2.word hN'.2.word
  have hown' : s'.vm.findClass own = some m.cls := by rw [hvm]; exact hown
  have hins : (Cond.instantiable cls 6).before args s' = true := h _ (by simp [Bundle.ownAtoms])
  obtain ⟨vm₁, cX, kX, hfX, hkX, -, -, X₁, st1⟩ := Y.newCold hexec (own := own) (C := cls) (index := ik) (n := 6) hown' hk' hins hini'
    (g := F0 m pc ls rest) rfl (by rw [hb]; exact d0) (Nat.le_refl _) (Nat.le_refl _)
  generalize hT1 : (T.setVm vm₁).pushCell { cls := cX, slots := kX.instanceTypes.map defaultValue, vm := .none } = T1 at X₁ st1
  have hcat : (Value.ref T.heap.size).category = 1 := rfl
  have hcellA : T1.heap[T.heap.size]? = some (freshCell cX kX) := by rw [← hT1]; exact State.heap_pushCell_size _ _
  have d3' : decode c.code (pc + 3) = .ok (.dup, 1) := by rw [hb]; exact d3
  have d4' : decode c.code (pc + 4) = .ok (.ldc is, 2) := by rw [hb]; exact d4
  have hstr' : vk_R own is text sa s' := vk_R.warm hW0 hstr
  obtain ⟨U, hsteps, hrun, hend, hW, hsame, ce, hce, hO⟩ := X₁.ctorThrowS hexec htr (own := own) (cls := cls) (names := names) (ic := ic) hown' hcls hnames h (fun x hx => nomatch hx) hfX hkX hcellA (by rw [hhp, hT]; exact Nat.le_refl _) (msg := .ref sa) rfl
    (g := { method := m, pc := pc + 6, locals := ls, stack := .ref sa :: .ref T.heap.size :: .ref T.heap.size :: rest, locked := none }) rfl hsize rfl rfl (rest := rest) rfl
    (by rw [hb]; exact d6) (by rw [hb]; exact d9) hout hRframes (by simp only [List.map_cons, List.sum_cons, hcat]; omega) hlocks
  obtain ⟨f1, f2⟩ := vx_frame hsame
  rw [hhp] at f1 f2
  have hWs : s.WarmedH U.vm := State.WarmedH.trans hW0 hW
  have hcl : s.vm.findClass cls = some ce.cls := by
    have h9 := hO.cls
    rw [hvm] at h9
    exact h9
  have hall : s.sameButNew ({ U with vm := s.vm } : State) locs mc ms := by
    subst hA
    obtain ⟨e1, e2⟩ := hsame
    rw [State.setFrames_setFrames] at e1
    have h2 : (T.setVm s.vm).sameButNew ({ U with vm := s.vm } : State) [] (0 + 1) (0 + 6) := ⟨e1, e2⟩
    have h3 := X.same.trans h2
    rw [List.append_nil] at h3
    exact h3.mono hc hs
  refine ⟨U, ?_, .threw T.heap.size, hrun, hend, Or.inr ⟨T.heap.size, rfl, cls, ce, locs, hx U hWs.alike (by rw [← hT]; exact (Array.getElem?_eq_some_iff.mp hce).1) (fun q hq => f2 q hq (fun z hz => nomatch hz)), hce, hO.vm, hcl, hWs, hall, hf⟩⟩
  refine st1 _ ?_
  show Steps p.tables e below (T1.setTop { method := m, pc := pc + 3, locals := ls, stack := .ref T.heap.size :: rest, locked := none }) _
  jvm_step X₁.here [X₁.here.top, hexec, d3', Value.category]
  exact X₁.ldcString hexec (own := own) (text := text) (index := is) (a := sa) hown' hstr'.1 hstr'.2
    (g := { method := m, pc := pc + 4, locals := ls, stack := .ref T.heap.size :: .ref T.heap.size :: rest, locked := none }) rfl d4' _ hsteps
section XO
variable {p : Program} {l : Launch} {e : Env} {R : Room} {s : State} {m : MethodId} {args : Array Value} {below : List Frame} {meth : Method} {c : Code} {H : Heap} {locs : List Loc} {Q : State → Prop}
variable {ov : List (List Int32)} {D : va_G} {cA : Nat → ClassId} {old : Nat → Nat} {base mi pc : Nat} {ls : Array Slot} {rest : List Value} {h h' : xe_H}
theorem xo_pre (F : xe_F ov D cA old base p s m args meth c mi) (hR : xe_Rl D cA old base s.heap h H locs) (hX : xo_K base s) (as : List Value) : PreS s H (xo_Pc ov D cA old base as h) (as.map (xe_v (xe_ad base old))) := by
  obtain ⟨-, b2⟩ := xe_pre F hR as
  exact ⟨xo_Pc.blind, fun U hU hW => ⟨b2 U hU hW, hX.to hW (fun q h1 h2 => by rw [hU]; exact hR.2.2.1.2.1 q h1 h2)⟩⟩
/-- a step that leaves the cells as they are -/
theorem xo_st (F : xe_F ov D cA old base p s m args meth c mi) {S S' : xe_S} (hn : xe_nx ov mi S = some (.inl S')) (hh : S'.2.2.2 = S.2.2.2) (hR : xe_Rl D cA old base s.heap S.2.2.2 H locs) (hl : lv_has ls (xe_mL mi) (S.2.1.map (xe_q (xe_ad base old)))) (hfr : 1 ≤ R.frames) (hlo : 20 ≤ R.locals)
    (kk : ∀ (H1 : Heap) (locs1 : List Loc) (ls1 : Array Slot), xe_Rl D cA old base s.heap S.2.2.2 H1 locs1 → lv_has ls1 (xe_mL mi) (S'.2.1.map (xe_q (xe_ad base old))) → W p l e R s m args below meth c H1 locs1 0 0 Q (F0 m S'.1 ls1 (S'.2.2.1.map (xe_v (xe_ad base old))))) :
    W p l e R s m args below meth c H locs 0 0 Q (F0 m S.1 ls (S.2.2.1.map (xe_v (xe_ad base old)))) := by
  have key := xe_step (Q := Q) (R := R) (l := l) (e := e) (below := below) F hn hR hl (n0 := S.2.2.2.length) (z0 := xe_sz S.2.2.2) (Nat.le_refl _) (Nat.le_refl _) (by rw [hh]; exact Nat.le_add_right _ _) (by rw [hh]; exact Nat.le_add_right _ _) hfr hlo (fun H1 locs1 ls1 hR1 hl1 => by
    rw [hh] at hR1 ⊢
    rw [Nat.sub_self, Nat.sub_self]
    exact kk H1 locs1 ls1 hR1 hl1)
  rw [Nat.sub_self, Nat.sub_self] at key
  exact key
end XO
/-- thrown: the cells as they were, and something new behind them -/
def xo_XC (D : va_G) (cA : Nat → ClassId) (old : Nat → Nat) (base : Nat) (h : xe_H) : String → State → State → Prop := fun E st t => E = xo_E ∧ ∃ (H1 : Heap) (locs1 : List Loc), xe_Rl D cA old base st.heap h H1 locs1 ∧ H1.size < t.heap.size ∧ ∀ q : Nat, q < H1.size → t.heap[q]? = H1[q]?
theorem xo_k194 : (xe_mk 193).headD 9 = 1 := by decide +kernel
theorem xo_k139 : (xe_mk 138).headD 9 ≠ 9 := by decide +kernel
theorem xo_n0 {ov : List (List Int32)} {v : Int32} {h : xe_H} : xe_nx ov 193 (0, lv_args 0 [.ref 0, .int v], [], h) = some (.inl (1, lv_args 0 [.ref 0, .int v], [.ref 0], h)) := by
  rw [xe_nx_of kc_193_0]
  rfl
theorem xo_n1 {ov : List (List Int32)} {v : Int32} {h : xe_H} {fs : List Value} (h0 : h[0]? = some (.inr (0, fs))) (h2 : fs[2]? = some (.ref 66)) : xe_nx ov 193 (1, lv_args 0 [.ref 0, .int v], [.ref 0], h) = some (.inl (4, lv_args 0 [.ref 0, .int v], [.ref 66], h)) := by
  rw [xe_nx_of kc_193_1]
  simp only [xe_i, xe_pR, xe_go, List.headD_cons, h0, if_true]
  show (match fs[2]? with | some v => xe_on _ | none => none) = _
  rw [h2]
  rfl
theorem xo_n4 {ov : List (List Int32)} {v : Int32} {h : xe_H} : xe_nx ov 193 (4, lv_args 0 [.ref 0, .int v], [.ref 66], h) = some (.inl (5, lv_args 0 [.ref 0, .int v], [.int v, .ref 66], h)) := by
  rw [xe_nx_of kc_193_4]
  rfl
theorem xo_n5 {ov : List (List Int32)} {v : Int32} {h : xe_H} {fs : List Value} (h66 : h[66]? = some (.inr (3, fs))) : xe_nx ov 193 (5, lv_args 0 [.ref 0, .int v], [.int v, .ref 66], h) = some (.inr (.inr (138, [.ref 66, .int v], []))) := by
  rw [xe_nx_of kc_193_5]
  show xe_go h 66 3 _ = _
  unfold xe_go
  rw [h66]
  rfl
theorem xo_n8 {ov : List (List Int32)} {v : Int32} {h : xe_H} : xe_nx ov 193 (8, lv_args 0 [.ref 0, .int v], [.int 0], h) = some (.inl (11, lv_args 0 [.ref 0, .int v], [], h)) := by
  rw [xe_nx_of kc_193_8]
  rfl
theorem xo_d11 : decode (xe_mB 193) 11 = .ok (.new 193, 3) ∧ decode (xe_mB 193) (11 + 3) = .ok (.dup, 1) ∧ decode (xe_mB 193) (11 + 4) = .ok (.ldc 195, 2) ∧ decode (xe_mB 193) (11 + 6) = .ok (.invokespecial 197, 3) ∧ decode (xe_mB 193) (11 + 9) = .ok (.athrow, 1) := by decide +kernel
set_option maxHeartbeats 2000000 in
theorem xo_met194 {ov : List (List Int32)} {l : Launch} (htr : l.stackTraces = false) {D : va_G} {cA : Nat → ClassId} {old : Nat → Nat} {base d : Nat} (hd : 4 ≤ d) {v : Int32} {h : xe_H} {fs fs6 : List Value} (h0 : h[0]? = some (.inr (0, fs))) (h2 : fs[2]? = some (.ref 66)) (h66 : h[66]? = some (.inr (3, fs6))) {n : Nat} (hex : xe_ex xe_J0 ov n d 138 (0, lv_args 0 [.ref 66, .int v], [], h) = some (some (.int 0), h)) :
    vx_Met l (xe_mY 193) (xe_Ws 193) (xe_rm (d + 1) 1 6) (xo_Pc ov D cA old base [.ref 0, .int v] h) (fun _ _ _ _ => False) (xo_XC D cA old base h) 1 6 (fun q => base ≤ q) := by
  refine vx_ofW (cc := xe_mB 193) (maxL := xe_mL 193) (ret := xe_mR 193) (by decide +kernel) rfl ?_
  intro p e s m args below meth c s₁ B hml ht hv
  obtain ⟨⟨rfl, hbs, hK, hR⟩, hX⟩ := hv
  have hts0 := atoms_spec (ws := xe_Ws 193) B.pre
  have F : xe_F ov D cA old base p s m (([.ref 0, .int v] : List Value).map (xe_v (xe_ad base old))).toArray meth c 193 := ⟨B.exec, B.bytes, hml, findClass_of_methodNamed B.named, fun w hw => hts0 w (List.mem_cons_of_mem _ hw), B.returns, B.notSynchronized, fun q => (name_of_methodNamed B.named B.method).1.trans q, hbs, hK⟩
  have hlen : (lg_sl (([.ref 0, .int v] : List Value).map (xe_v (xe_ad base old)))).length ≤ xe_mL 193 := by
    rw [xe_lg_len, xe_cats]; exact xm_le ml_193 rfl
  have hl := lv_entry (([.ref 0, .int v] : List Value).map (xe_v (xe_ad base old))) (n := xe_mL 193) hlen
  rw [lg_entry_eq]
  generalize (lg_sl (([.ref 0, .int v] : List Value).map (xe_v (xe_ad base old))) ++ List.replicate (xe_mL 193 - (lg_sl (([.ref 0, .int v] : List Value).map (xe_v (xe_ad base old)))).length) Slot.unset).toArray = ls at hl ⊢
  rw [← xe_args_map] at hl
  have hfr : 1 ≤ (xe_rm (d + 1) 1 6).frames := Nat.le_add_left _ _
  have hlo : 20 ≤ (xe_rm (d + 1) 1 6).locals := by show 20 ≤ (d + 1 + 1) * 40; omega
  refine xo_st (R := xe_rm (d + 1) 1 6) F (S := (0, lv_args 0 [.ref 0, .int v], [], h)) xo_n0 rfl hR hl hfr hlo (fun H1 locs1 ls1 hR1 hl1 => ?_)
  refine xo_st (R := xe_rm (d + 1) 1 6) F (S := (1, lv_args 0 [.ref 0, .int v], [.ref 0], h)) (xo_n1 h0 h2) rfl hR1 hl1 hfr hlo (fun H2 locs2 ls2 hR2 hl2 => ?_)
  refine xo_st (R := xe_rm (d + 1) 1 6) F (S := (4, lv_args 0 [.ref 0, .int v], [.ref 66], h)) xo_n4 rfl hR2 hl2 hfr hlo (fun H3 locs3 ls3 hR3 hl3 => ?_)
  have hM := xe_met_of (D := D) (cA := cA) (old := old) (base := base) (xe_sound (l := l) (xe_J0ok (ov := ov)) n) hex (xm_le ml_138 rfl) xo_k139
  rw [Nat.sub_self, Nat.sub_self] at hM
  have hrun := xe_run (R := xe_rm (d + 1) 1 6) (below := below) (e := e) (cells := 0) (slots := 0) F (S := (5, lv_args 0 [.ref 0, .int v], [.int v, .ref 66], h)) (xo_n5 h66) hR3 hl3 xo_k139 hM (Nat.le_refl _) (Nat.le_refl _) ⟨Nat.zero_le _, Nat.zero_le _⟩
  refine xe_called hrun hR3 (fun H4 locs4 hR4 => ?_)
  refine xo_st (R := xe_rm (d + 1) 1 6) F (S := (8, lv_args 0 [.ref 0, .int v], [.int 0], h)) xo_n8 rfl hR4 hl3 hfr hlo (fun H5 locs5 ls5 hR5 hl5 => ?_)
  obtain ⟨d0, d3, d4, d6, d9⟩ := xo_d11
  obtain ⟨hU, hN, ⟨sa, hstr⟩, hcast, hd1, hd2, hd3⟩ := hX
  obtain ⟨hx, hb, -, hown, hts, -, hlk, -⟩ := F
  exact xo_throwS (cc := xe_mB 193) (pc := 11) hx hb htr (own := "DampHouse") (cls := xo_E) (text := xo_tx) (names := xo_N) (ik := 193) (is := 195) (ic := 197) (sa := sa) (A := fun q => base ≤ q) hown (by decide +kernel) (by decide +kernel) (hts _ xo_w1) (hts _ xo_w2) hstr
    (vx_hat (B := xo_B) (fun w hw => hts w (xo_in w hw)) xo_non (vx_c (va_Nw.use rfl hcast) (vx_c (va_Nw.use rfl hd1) (vx_c (va_Nw.use rfl hd2) (vx_c (va_Nw.use rfl hd3) vx_n))))) xo_good hU hN hR5.2.2.1 (hl5.1.trans hml.symm) d0 d3 d4 d6 d9 (fun x hx => (ht x hx).elim)
    (by show 2 + 3 < d + 1 + 1; omega) (by show 0 + (13 * (2 + 1) + 43) ≤ (d + 1 + 1) * 40; omega) (Nat.le_refl _) (Nat.le_refl _) hlk (fun t _ h1 h3 => ⟨rfl, H5, locs5, hR5, h1, h3⟩) hR5.2.2.1.2.2 (Nat.le_refl _) (Nat.le_refl _)
