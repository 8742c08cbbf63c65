/-! One step of the pure machine is one of the machine's -/
def xe_ln : Instr → Nat
  | .bipush _ | .ldc _ | .iload _ | .lload _ | .aload _ | .istore _ | .lstore _ | .astore _ | .newarray _ => 2
  | .sipush _ | .ldc2_w _ | .ldc_w _ | .iinc _ _ | .goto _ | .ifCond _ _ | .if_icmp _ _ | .getfield _ | .putfield _ | .getstatic _ | .new _ | .anewarray _ | .invokestatic _ | .invokevirtual _ | .invokespecial _ => 3
  | _ => 1
def xe_sw : Instr → Bool
  | .tableswitch _ _ _ _ => true
  | _ => false
def xe_dec (mi pc : Nat) (i : Instr) : Bool := match decode (xe_mB mi) pc with
  | .ok (j, n) => decide (j = i) && (xe_sw i || n == xe_ln i)
  | .error _ => false
def xe_at (p : Nat) (w : Jvm.Cond) : Bool := decide (lw_tbl[p]? = some w)
def xe_inG (p : Nat) (w : Jvm.Cond) : Bool := xe_at p w && goodWord w
def xe_fl (p : Nat) (own : String) (idx : Nat) (C n d : String) : Bool := xe_inG p (.fieldLink own idx C n d) || xe_at p (.fieldLinkNest own idx C n d xe_host)
def xe_ml (p : Nat) (own : String) (idx : Nat) (y : MethodName) : Bool := xe_inG p (.methodLink own idx y) || xe_at p (.methodLinkNest own idx y xe_host)
def xe_mk (mj : Nat) : List Nat := xe_mq.getD mj []
def xe_wd (mi pc : Nat) (i : Instr) (ax : List Nat) : Bool := match i with
  | .ldc idx => xe_inG (ax.getD 1 0) (.constant (xe_mY mi).cls idx (Int32.ofNat (ax.headD 0)))
  | .ldc_w idx => xe_inG (ax.getD 1 0) (.constant (xe_mY mi).cls idx (Int32.ofNat (ax.headD 0)))
  | .ldc2_w idx => xe_inG (ax.getD 1 0) (.constantLong (xe_mY mi).cls idx (Int64.ofNat (ax.headD 0)))
  | .goto off => decide ((pc : Int) + off = ((ax.headD 0 : Nat) : Int))
  | .ifCond _ off => decide ((pc : Int) + off = ((ax.headD 0 : Nat) : Int))
  | .if_icmp _ off => decide ((pc : Int) + off = ((ax.headD 0 : Nat) : Int))
  | .tableswitch d _ _ offs => decide ((pc : Int) + d = ((ax.headD 0 : Nat) : Int)) && decide (offs.toList.map (fun o => (pc : Int) + o) = ax.tail.map (fun (t : Nat) => (t : Int)))
  | .getfield idx => match xe_cls[ax.headD 0]? with
    | some (_, T, N) => decide (ax.getD 1 0 < N) && xe_fl (ax.getD 2 0) (xe_mY mi).cls idx (T (ax.getD 1 0)).1 (T (ax.getD 1 0)).2.1 (T (ax.getD 1 0)).2.2.1
    | none => false
  | .putfield idx => match xe_cls[ax.headD 0]? with
    | some (_, T, N) => decide (ax.getD 1 0 < N) && (if (T (ax.getD 1 0)).2.2.2 = true then decide ((xe_mY mi).name = "<init>") && decide ((T (ax.getD 1 0)).1 = (xe_mY mi).cls) && xe_inG (ax.getD 2 0) (.fieldLink (xe_mY mi).cls idx (T (ax.getD 1 0)).1 (T (ax.getD 1 0)).2.1 (T (ax.getD 1 0)).2.2.1) else xe_fl (ax.getD 2 0) (xe_mY mi).cls idx (T (ax.getD 1 0)).1 (T (ax.getD 1 0)).2.1 (T (ax.getD 1 0)).2.2.1)
    | none => false
  | .getstatic idx => match xe_zs.find? (fun z => z.2.2.2 == ax.headD 0) with
    | some z => xe_fl (ax.getD 1 0) (xe_mY mi).cls idx z.1 z.2.1 z.2.2.1
    | none => false
  | .new idx => match xe_cls[ax.headD 0]? with
    | some (C, _, _) => xe_inG (ax.getD 1 0) (.classLink (xe_mY mi).cls idx C)
    | none => false
  | .newarray aty => decide (xe_ty[ax.headD 0]? = some (newarray.typeOf aty)) && xe_inG (ax.getD 1 0) (.arrayClass (newarray.typeOf aty))
  | .anewarray idx => match xe_ty[ax.headD 0]? with
    | some (.object C) => xe_inG (ax.getD 1 0) (.classLink (xe_mY mi).cls idx C) && decide (C ∈ xe_ov)
    | _ => false
  | .areturn => xe_isR (xe_mR mi)
  | .invokestatic idx => xe_ml (ax.getD 2 0) (xe_mY mi).cls idx (xe_mY (ax.headD 0)) && (ax.headD 0 == xe_loff || (((xe_mk (ax.headD 0)).headD 9 == 0) && ((xe_mk (ax.headD 0)).getD 1 0 == ax.getD 1 0)))
  | .invokevirtual idx => xe_ml (ax.getD 2 0) (xe_mY mi).cls idx (xe_mY (ax.headD 0)) && ((xe_mk (ax.headD 0)).headD 9 == 1) && ((xe_mk (ax.headD 0)).getD 1 0 == ax.getD 1 0) && ((xe_mk (ax.headD 0)).getD 2 0 == ax.getD 3 0)
  | .invokespecial idx => if ax.headD 0 = 0 then xe_inG (ax.getD 2 0) (.methodLink (xe_mY mi).cls idx objectInit) && (ax.getD 1 0 == 0) else xe_ml (ax.getD 2 0) (xe_mY mi).cls idx (xe_mY (ax.headD 0)) && ((xe_mk (ax.headD 0)).headD 9 == 2) && ((xe_mk (ax.headD 0)).getD 1 0 == ax.getD 1 0)
  | _ => true
/-- a method that code calls: its words stand among the good ones -/
def xe_mchk (mj : Nat) : Bool := (xe_mk mj).headD 9 == 9 || (xe_inG ((xe_mk mj).getD 3 0) (.code (xe_mY mj) (xe_mB mj) (xe_mL mj) (xe_mR mj)) && xe_inG ((xe_mk mj).getD 4 0) (.initialized (xe_mY mj).cls) && plainFor (xe_mY mj) && decide ((xe_mY mj).cls ≠ "java/lang/invoke/MethodHandle") && decide ((xe_mY mj).cls ≠ "java/lang/invoke/VarHandle") && decide ((parseMethodDescriptor (xe_mY mj).desc).map (fun d => d.parameters.length) = some ((xe_mk mj).getD 1 0)) &&
  (if (xe_mk mj).headD 9 = 0 then xe_inG ((xe_mk mj).getD 5 0) (.static (xe_mY mj)) else xe_inG ((xe_mk mj).getD 5 0) (.instanceMethod (xe_mY mj))) &&
  (if (xe_mk mj).headD 9 = 1 then xe_inG ((xe_mk mj).getD 6 0) (.selects (xe_mY mj).cls (xe_mY mj) (xe_mY mj)) && decide ((xe_cls[(xe_mk mj).getD 2 0]?).map (fun q => q.1) = some (xe_mY mj).cls) else true) &&
  (if (xe_mk mj).headD 9 = 2 then decide ((xe_mY mj).name = "<init>") && decide (xe_mR mj = none) else true))
