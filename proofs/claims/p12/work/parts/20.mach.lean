/-! THE PURE MACHINE: what a method does, by big steps, over cells whose references are relative (xe_). Its tables (xe_cls, xe_ty, xe_dv, xe_mY, xe_mB, xe_mL, xe_mR, xe_code) stand in the parts ahead of this one. -/
abbrev xe_A : Type := List Int32 ⊕ List Int64 ⊕ List (Option Nat)
/-- a cell: an array (the number of its kind, what it holds), or an object (the number of its class, its fields) -/
abbrev xe_E : Type := (Nat × xe_A) ⊕ (Nat × List Value)
abbrev xe_H : Type := List xe_E
/-- pc, locals, operand stack, cells -/
abbrev xe_S : Type := Nat × List (Nat × Value) × List Value × xe_H
/-- on, or back with an answer, or a call: which method, with what, what stays on the stack -/
abbrev xe_N : Type := xe_S ⊕ Option Value ⊕ (Nat × List Value × List Value)
/-- references from here on are of arrays that are there from the start -/
def xe_o : Nat := 1000000
def xe_ld (lv : List (Nat × Value)) (i : Nat) : Option Value := (lv.find? (fun q => q.1 == i)).map (fun q => q.2)
def xe_st1 (lv : List (Nat × Value)) (i : Nat) (v : Value) : List (Nat × Value) := (i, v) :: lv.filter (fun q => !(q.1 == i) && !(q.1 + 1 == i && q.2.category == 2))
def xe_st2 (lv : List (Nat × Value)) (i : Nat) (v : Value) : List (Nat × Value) := (i, v) :: lv.filter (fun q => !(q.1 == i) && (!(q.1 == i + 1) && !(q.1 + 1 == i && q.2.category == 2)))
def xe_cmp (c : ClassFile.Cond) (x y : Int32) : Bool := match c with
  | .eq => decide (x = y)
  | .ne => !decide (x = y)
  | .lt => decide (x < y)
  | .ge => decide (y ≤ x)
  | .gt => decide (y < x)
  | .le => decide (x ≤ y)
def xe_ldI (r : Option Value) (k : Int32 → Option xe_N) : Option xe_N := match r with
  | some (.int x) => k x
  | _ => none
def xe_ldL (r : Option Value) (k : Int64 → Option xe_N) : Option xe_N := match r with
  | some (.long x) => k x
  | _ => none
def xe_p1 (st : List Value) (k : Int32 → List Value → Option xe_N) : Option xe_N := match st with
  | .int x :: r => k x r
  | _ => none
def xe_p2 (st : List Value) (k : Int32 → Int32 → List Value → Option xe_N) : Option xe_N := match st with
  | .int y :: .int x :: r => k x y r
  | _ => none
def xe_pL (st : List Value) (k : Int64 → List Value → Option xe_N) : Option xe_N := match st with
  | .long x :: r => k x r
  | _ => none
def xe_pLL (st : List Value) (k : Int64 → Int64 → List Value → Option xe_N) : Option xe_N := match st with
  | .long y :: .long x :: r => k x y r
  | _ => none
def xe_pLI (st : List Value) (k : Int64 → Int32 → List Value → Option xe_N) : Option xe_N := match st with
  | .int y :: .long x :: r => k x y r
  | _ => none
def xe_pR (st : List Value) (k : Nat → List Value → Option xe_N) : Option xe_N := match st with
  | .ref a :: r => k a r
  | _ => none
def xe_pRI (st : List Value) (k : Nat → Int32 → List Value → Option xe_N) : Option xe_N := match st with
  | .int i :: .ref a :: r => k a i r
  | _ => none
def xe_pA (st : List Value) (k : Value → List Value → Option xe_N) : Option xe_N := match st with
  | v :: r => k v r
  | _ => none
def xe_gi (ov : List (List Int32)) (h : xe_H) (a : Nat) (k : List Int32 → Option xe_N) : Option xe_N :=
  if a < xe_o then match h[a]? with
    | some (.inl (t, .inl l)) => if xe_ty[t]? = some .int then k l else none
    | _ => none
  else match ov[a - xe_o]? with
    | some l => k l
    | none => none
def xe_gl (h : xe_H) (a : Nat) (k : Nat → List Int64 → Option xe_N) : Option xe_N := match h[a]? with
  | some (.inl (t, .inr (.inl l))) => if xe_ty[t]? = some .long then k t l else none
  | _ => none
def xe_gw (h : xe_H) (a : Nat) (ty : FieldType) (k : Nat → List Int32 → Option xe_N) : Option xe_N := match h[a]? with
  | some (.inl (t, .inl l)) => if xe_ty[t]? = some ty then k t l else none
  | _ => none
def xe_gq (h : xe_H) (a : Nat) (k : Nat → String → List (Option Nat) → Option xe_N) : Option xe_N := match h[a]? with
  | some (.inl (t, .inr (.inr l))) => match xe_ty[t]? with
    | some (.object C) => k t C l
    | _ => none
  | _ => none
def xe_go (h : xe_H) (a ci : Nat) (k : List Value → Option xe_N) : Option xe_N := match h[a]? with
  | some (.inr (cj, fs)) => if cj = ci then k fs else none
  | _ => none
def xe_alen (ov : List (List Int32)) (h : xe_H) (a : Nat) : Option Nat :=
  if a < xe_o then match h[a]? with
    | some (.inl (t, .inl l)) => if t < xe_ty.length then some l.length else none
    | some (.inl (t, .inr (.inl l))) => if t < xe_ty.length then some l.length else none
    | some (.inl (t, .inr (.inr l))) => if t < xe_ty.length then some l.length else none
    | _ => none
  else (ov[a - xe_o]?).map List.length
def xe_on (x : xe_S) : Option xe_N := some (.inl x)
def xe_i (ov : List (List Int32)) (mi : Nat) (i : Instr) (ax : List Nat) (pc : Nat) (lv : List (Nat × Value)) (st : List Value) (h : xe_H) : Option xe_N := match i with
  | .iconst n => xe_on (pc + 1, lv, .int (Int32.ofInt n) :: st, h)
  | .lconst n => xe_on (pc + 1, lv, .long (Int64.ofNat n.val) :: st, h)
  | .bipush n => xe_on (pc + 2, lv, .int (Int8.ofInt n).toInt32 :: st, h)
  | .sipush n => xe_on (pc + 3, lv, .int (Int16.ofInt n).toInt32 :: st, h)
  | .ldc _ => xe_on (pc + 2, lv, .int (Int32.ofNat (ax.headD 0)) :: st, h)
  | .ldc_w _ => xe_on (pc + 3, lv, .int (Int32.ofNat (ax.headD 0)) :: st, h)
  | .ldc2_w _ => xe_on (pc + 3, lv, .long (Int64.ofNat (ax.headD 0)) :: st, h)
  | .iload_n k => xe_ldI (xe_ld lv k.val) fun x => xe_on (pc + 1, lv, .int x :: st, h)
  | .iload k => xe_ldI (xe_ld lv k) fun x => xe_on (pc + 2, lv, .int x :: st, h)
  | .lload_n k => xe_ldL (xe_ld lv k.val) fun x => xe_on (pc + 1, lv, .long x :: st, h)
  | .lload k => xe_ldL (xe_ld lv k) fun x => xe_on (pc + 2, lv, .long x :: st, h)
  | .aload_n k => match xe_ld lv k.val with
    | some (.ref x) => xe_on (pc + 1, lv, .ref x :: st, h)
    | _ => none
  | .aload k => match xe_ld lv k with
    | some (.ref x) => xe_on (pc + 2, lv, .ref x :: st, h)
    | _ => none
  | .istore_n k => xe_p1 st fun x r => if k.val < xe_mL mi then xe_on (pc + 1, xe_st1 lv k.val (.int x), r, h) else none
  | .istore k => xe_p1 st fun x r => if k < xe_mL mi then xe_on (pc + 2, xe_st1 lv k (.int x), r, h) else none
  | .lstore_n k => xe_pL st fun x r => if k.val + 1 < xe_mL mi then xe_on (pc + 1, xe_st2 lv k.val (.long x), r, h) else none
  | .lstore k => xe_pL st fun x r => if k + 1 < xe_mL mi then xe_on (pc + 2, xe_st2 lv k (.long x), r, h) else none
  | .astore_n k => xe_pR st fun x r => if k.val < xe_mL mi then xe_on (pc + 1, xe_st1 lv k.val (.ref x), r, h) else none
  | .astore k => xe_pR st fun x r => if k < xe_mL mi then xe_on (pc + 2, xe_st1 lv k (.ref x), r, h) else none
  | .iinc k n => xe_ldI (xe_ld lv k) fun x => if k < xe_mL mi then xe_on (pc + 3, xe_st1 lv k (.int (x + Int32.ofInt n)), st, h) else none
  | .iadd => xe_p2 st fun x y r => xe_on (pc + 1, lv, .int (x + y) :: r, h)
  | .isub => xe_p2 st fun x y r => xe_on (pc + 1, lv, .int (x - y) :: r, h)
  | .imul => xe_p2 st fun x y r => xe_on (pc + 1, lv, .int (x * y) :: r, h)
  | .iand => xe_p2 st fun x y r => xe_on (pc + 1, lv, .int (x &&& y) :: r, h)
  | .ior => xe_p2 st fun x y r => xe_on (pc + 1, lv, .int (x ||| y) :: r, h)
  | .ixor => xe_p2 st fun x y r => xe_on (pc + 1, lv, .int (x ^^^ y) :: r, h)
  | .ishl => xe_p2 st fun x y r => xe_on (pc + 1, lv, .int (x <<< (y &&& 31)) :: r, h)
  | .ishr => xe_p2 st fun x y r => xe_on (pc + 1, lv, .int (x >>> (y &&& 31)) :: r, h)
  | .iushr => xe_p2 st fun x y r => xe_on (pc + 1, lv, .int (x.toUInt32 >>> (y.toUInt32 &&& Int32.toUInt32 31)).toInt32 :: r, h)
  | .idiv => xe_p2 st fun x y r => if y = 0 then none else xe_on (pc + 1, lv, .int (x / y) :: r, h)
  | .irem => xe_p2 st fun x y r => if y = 0 then none else xe_on (pc + 1, lv, .int (x - x / y * y) :: r, h)
  | .ineg => xe_p1 st fun x r => xe_on (pc + 1, lv, .int (-x) :: r, h)
  | .i2l => xe_p1 st fun x r => xe_on (pc + 1, lv, .long x.toInt64 :: r, h)
  | .l2i => xe_pL st fun x r => xe_on (pc + 1, lv, .int x.toInt32 :: r, h)
  | .ladd => xe_pLL st fun x y r => xe_on (pc + 1, lv, .long (x + y) :: r, h)
  | .lsub => xe_pLL st fun x y r => xe_on (pc + 1, lv, .long (x - y) :: r, h)
  | .lmul => xe_pLL st fun x y r => xe_on (pc + 1, lv, .long (x * y) :: r, h)
  | .land => xe_pLL st fun x y r => xe_on (pc + 1, lv, .long (x &&& y) :: r, h)
  | .lor => xe_pLL st fun x y r => xe_on (pc + 1, lv, .long (x ||| y) :: r, h)
  | .lxor => xe_pLL st fun x y r => xe_on (pc + 1, lv, .long (x ^^^ y) :: r, h)
  | .ldiv => xe_pLL st fun x y r => if y = 0 then none else xe_on (pc + 1, lv, .long (x / y) :: r, h)
  | .lcmp => xe_pLL st fun x y r => xe_on (pc + 1, lv, .int (lg_cmp x y) :: r, h)
  | .lshl => xe_pLI st fun x y r => xe_on (pc + 1, lv, .long (x <<< (y.toInt64 &&& 63)) :: r, h)
  | .lshr => xe_pLI st fun x y r => xe_on (pc + 1, lv, .long (x >>> (y.toInt64 &&& 63)) :: r, h)
  | .lushr => xe_pLI st fun x y r => xe_on (pc + 1, lv, .long (x.toUInt64 >>> (y.toInt64.toUInt64 &&& Int64.toUInt64 63)).toInt64 :: r, h)
  | .dup => xe_pA st fun v r => if v.category = 1 then xe_on (pc + 1, lv, v :: v :: r, h) else none
  | .dup_x1 => xe_pA st fun v r => xe_pA r fun w r => if v.category = 1 ∧ w.category = 1 then xe_on (pc + 1, lv, v :: w :: v :: r, h) else none
  | .dup_x2 => xe_pA st fun v r => xe_pA r fun w r => xe_pA r fun x r => if v.category = 1 ∧ w.category = 1 ∧ x.category = 1 then xe_on (pc + 1, lv, v :: w :: x :: v :: r, h) else none
  | .dup2 => xe_pA st fun v r => xe_pA r fun w r => if v.category = 1 ∧ w.category = 1 then xe_on (pc + 1, lv, v :: w :: v :: w :: r, h) else none
  | .pop => xe_pA st fun v r => if v.category = 1 then xe_on (pc + 1, lv, r, h) else none
  | .pop2 => xe_pA st fun v r => if v.category = 2 then xe_on (pc + 1, lv, r, h) else none
  | .goto _ => xe_on (ax.headD 0, lv, st, h)
  | .ifCond c _ => xe_p1 st fun x r => if xe_cmp c x 0 = true then xe_on (ax.headD 0, lv, r, h) else xe_on (pc + 3, lv, r, h)
  | .if_icmp c _ => xe_p2 st fun x y r => if xe_cmp c x y = true then xe_on (ax.headD 0, lv, r, h) else xe_on (pc + 3, lv, r, h)
  | .tableswitch _ lo hi _ => xe_p1 st fun x r => if x.toInt < lo ∨ hi < x.toInt then xe_on (ax.headD 0, lv, r, h) else match ax.tail[(x.toInt - lo).toNat]? with
    | some t => xe_on (t, lv, r, h)
    | none => none
  | .arraylength => xe_pR st fun a r => match xe_alen ov h a with
    | some n => xe_on (pc + 1, lv, .int (Int32.ofNat n) :: r, h)
    | none => none
  | .iaload => xe_pRI st fun a i r => xe_gi ov h a fun l => if ¬ (i < 0 ∨ l.length ≤ i.toNatClampNeg) then xe_on (pc + 1, lv, .int (l.getD i.toNatClampNeg 0) :: r, h) else none
  | .baload => xe_pRI st fun a i r => xe_gw h a .boolean fun _ l => if ¬ (i < 0 ∨ l.length ≤ i.toNatClampNeg) then xe_on (pc + 1, lv, .int (l.getD i.toNatClampNeg 0) :: r, h) else none
  | .laload => xe_pRI st fun a i r => xe_gl h a fun _ l => if ¬ (i < 0 ∨ l.length ≤ i.toNatClampNeg) then xe_on (pc + 1, lv, .long (l.getD i.toNatClampNeg 0) :: r, h) else none
  | .aaload => xe_pRI st fun a i r => xe_gq h a fun _ _ l => if ¬ (i < 0 ∨ l.length ≤ i.toNatClampNeg) then xe_on (pc + 1, lv, va_rf (l.getD i.toNatClampNeg none) :: r, h) else none
  | .iastore => xe_p1 st fun x r => xe_pRI r fun a i r => xe_gw h a .int fun t l => if ¬ (i < 0 ∨ l.length ≤ i.toNatClampNeg) then xe_on (pc + 1, lv, r, h.set a (.inl (t, .inl (l.set i.toNatClampNeg x)))) else none
  | .bastore => xe_p1 st fun x r => xe_pRI r fun a i r => xe_gw h a .boolean fun t l => if ¬ (i < 0 ∨ l.length ≤ i.toNatClampNeg) then xe_on (pc + 1, lv, r, h.set a (.inl (t, .inl (l.set i.toNatClampNeg (vp_nar .boolean x))))) else none
  | .lastore => xe_pL st fun x r => xe_pRI r fun a i r => xe_gl h a fun t l => if ¬ (i < 0 ∨ l.length ≤ i.toNatClampNeg) then xe_on (pc + 1, lv, r, h.set a (.inl (t, .inr (.inl (l.set i.toNatClampNeg x))))) else none
  | .aastore => xe_pR st fun b r => xe_pRI r fun a i r => xe_gq h a fun t C l => match h[b]? with
    | some (.inr (ci, _)) => if (xe_cls[ci]?).map (fun q => q.1) = some C ∧ ¬ (i < 0 ∨ l.length ≤ i.toNatClampNeg) then xe_on (pc + 1, lv, r, h.set a (.inl (t, .inr (.inr (l.set i.toNatClampNeg (some b)))))) else none
    | _ => none
  | .getfield _ => xe_pR st fun a r => xe_go h a (ax.headD 0) fun fs => match fs[ax.getD 1 0]? with
    | some v => xe_on (pc + 3, lv, v :: r, h)
    | none => none
  | .putfield _ => xe_pA st fun v r => xe_pR r fun a r => xe_go h a (ax.headD 0) fun fs => match xe_fty (ax.headD 0) (ax.getD 1 0) with
    | some ty => if narrow ty v = v ∧ fits ty v = true ∧ ax.getD 1 0 < fs.length then xe_on (pc + 3, lv, r, h.set a (.inr (ax.headD 0, fs.set (ax.getD 1 0) v))) else none
    | none => none
  | .getstatic _ => xe_on (pc + 3, lv, .ref (xe_o + ax.headD 0) :: st, h)
  | .new _ => if h.length < xe_o then xe_on (pc + 3, lv, .ref h.length :: st, h ++ [.inr (ax.headD 0, xe_dv (ax.headD 0))]) else none
  | .newarray aty => xe_p1 st fun n r => if h.length < xe_o ∧ ¬ n < 0 ∧ n.toNatClampNeg ≤ 60000 then match newarray.typeOf aty with
      | .int => xe_on (pc + 2, lv, .ref h.length :: r, h ++ [.inl (ax.headD 0, .inl (List.replicate n.toNatClampNeg 0))])
      | .boolean => xe_on (pc + 2, lv, .ref h.length :: r, h ++ [.inl (ax.headD 0, .inl (List.replicate n.toNatClampNeg 0))])
      | .long => xe_on (pc + 2, lv, .ref h.length :: r, h ++ [.inl (ax.headD 0, .inr (.inl (List.replicate n.toNatClampNeg 0)))])
      | _ => none
    else none
  | .anewarray _ => xe_p1 st fun n r => if h.length < xe_o ∧ ¬ n < 0 ∧ n.toNatClampNeg ≤ 60000 then xe_on (pc + 3, lv, .ref h.length :: r, h ++ [.inl (ax.headD 0, .inr (.inr (List.replicate n.toNatClampNeg none)))]) else none
  | .return_ => if st = [] ∧ xe_mR mi = none then some (.inr (.inl none)) else none
  | .ireturn => match st with
    | [.int v] => match xe_mR mi with
      | some ty => if narrow ty (.int v) = .int v then some (.inr (.inl (some (.int v)))) else none
      | none => none
    | _ => none
  | .lreturn => match st with
    | [.long v] => if xe_mR mi = some .long then some (.inr (.inl (some (.long v)))) else none
    | _ => none
  | .areturn => match st with
    | [.ref a] => if xe_isR (xe_mR mi) = true then some (.inr (.inl (some (.ref a)))) else none
    | _ => none
  | .invokestatic _ => if ax.getD 1 0 ≤ st.length ∧ ((st.drop (ax.getD 1 0)).map fun v => v.category).sum ≤ 8 then some (.inr (.inr (ax.headD 0, (st.take (ax.getD 1 0)).reverse, st.drop (ax.getD 1 0)))) else none
  | .invokevirtual _ => xe_pR (st.drop (ax.getD 1 0)) fun b r => xe_go h b (ax.getD 3 0) fun _ => if (r.map fun v => v.category).sum ≤ 8 then some (.inr (.inr (ax.headD 0, .ref b :: (st.take (ax.getD 1 0)).reverse, r))) else none
  | .invokespecial _ => xe_pR (st.drop (ax.getD 1 0)) fun b r => if (r.map fun v => v.category).sum ≤ 8 then (if ax.headD 0 = 0 then xe_on (pc + 3, lv, r, h) else some (.inr (.inr (ax.headD 0, .ref b :: (st.take (ax.getD 1 0)).reverse, r)))) else none
  | _ => none
def xe_nx (ov : List (List Int32)) (mi : Nat) (S : xe_S) : Option xe_N := match xe_code mi S.1 with
  | some (i, ax) => xe_i ov mi i ax S.1 S.2.1 S.2.2.1 S.2.2.2
  | none => none
abbrev xe_J : Type := Nat → Nat → List Value → xe_H → Option (Option Value × xe_H)
/-- n: how many instructions on one road at most; d: how deep the calls; J: calls whose ends are known otherwise -/
noncomputable def xe_ex (J : xe_J) (ov : List (List Int32)) (n : Nat) : Nat → Nat → xe_S → Option (Option Value × xe_H) :=
  Nat.rec (motive := fun _ => Nat → Nat → xe_S → Option (Option Value × xe_H)) (fun _ _ _ => none)
    (fun _ ih d mi S => match xe_nx ov mi S with
      | some (.inl S') => ih d mi S'
      | some (.inr (.inl r)) => some (r, S.2.2.2)
      | some (.inr (.inr (mj, as, rest))) => match d with
        | 0 => none
        | d' + 1 => match (match J d' mj as S.2.2.2 with
            | some q => some q
            | none => if (as.map fun v : Value => v.category).sum ≤ xe_mL mj then ih d' mj (0, lv_args 0 as, [], S.2.2.2) else none) with
          | some (r, h') => ih d mi (S.1 + 3, S.2.1, r.toList ++ rest, h')
          | none => none
      | none => none) n
def xe_w : xe_E → Nat
  | .inl (_, .inl l) => l.length
  | .inl (_, .inr (.inl l)) => l.length
  | .inl (_, .inr (.inr l)) => l.length
  | .inr (_, fs) => fs.length
def xe_sz (h : xe_H) : Nat := (h.map xe_w).sum
