/-! Instructions held against bytes, along the code -/
def xe_ck (mi : Nat) (q : Nat × Instr × List Nat) : Bool := xe_dec mi q.1 q.2.1 && xe_wd mi q.1 q.2.1 q.2.2
def xa_1 (l : List UInt8) (op : Nat) : Bool := match l with
  | b :: _ => Nat.beq b.toNat op
  | [] => false
def xa_2 (l : List UInt8) (op : Nat) (c : Nat → Bool) : Bool := match l with
  | b :: d :: _ => Nat.beq b.toNat op && c d.toNat
  | _ => false
def xa_3 (l : List UInt8) (op : Nat) (c : Nat → Nat → Bool) : Bool := match l with
  | b :: d :: e :: _ => Nat.beq b.toNat op && c d.toNat e.toNat
  | _ => false
section FA
variable {all : ByteArray} {pc p p1 p2 v a b : Nat} {i : Instr}
theorem xa_u1 {x : UInt8} {r : List UInt8} (h : all.data.toList.drop p = x :: r) : (Reader.u1 : Decoder Nat) all p = .ok (x.toNat, p + 1) := by
  have hp : p < all.data.toList.length := by
    by_cases q : p < all.data.toList.length
    · exact q
    · have q2 : all.data.toList.length ≤ p := by omega
      rw [List.drop_eq_nil_of_le q2] at h
      cases h
  rw [List.drop_eq_getElem_cons hp] at h
  have hx : all.data.toList[p] = x := (List.cons.inj h).1
  have hs : p < all.size := hp
  have e : (Reader.u1 : Decoder Nat) all p = Except.ok ((all[p]'hs).toNat, p + 1) := by
    show (if h : p < all.size then _ else _ : Decoder Nat) all p = _
    rw [dif_pos hs] <;> rfl
  rw [e, ← hx] <;> rfl
theorem xa_dr1 {x : UInt8} {r l : List UInt8} (h : l.drop p = x :: r) : l.drop (p + 1) = r := by
  rw [← List.tail_drop, h, List.tail_cons]
theorem xa_1_of {op : Nat} (h : xa_1 (all.data.toList.drop pc) op = true) : (Reader.u1 : Decoder Nat) all pc = .ok (op, pc + 1) := by
  cases hl : all.data.toList.drop pc with
  | nil => rw [hl] at h; exact absurd (show false = true from h) Bool.false_ne_true
  | cons x r =>
    rw [hl] at h
    have e : x.toNat = op := Nat.eq_of_beq_eq_true h
    rw [xa_u1 hl, e]
theorem xa_2_of {op : Nat} {c : Nat → Bool} (h : xa_2 (all.data.toList.drop pc) op c = true) : ∃ a, (Reader.u1 : Decoder Nat) all pc = .ok (op, pc + 1) ∧ (Reader.u1 : Decoder Nat) all (pc + 1) = .ok (a, pc + 1 + 1) ∧ c a = true := by
  cases hl : all.data.toList.drop pc with
  | nil => rw [hl] at h; exact absurd (show false = true from h) Bool.false_ne_true
  | cons x r =>
    cases r with
    | nil => rw [hl] at h; exact absurd (show false = true from h) Bool.false_ne_true
    | cons y r2 =>
      rw [hl] at h
      have h9 : (Nat.beq x.toNat op && c y.toNat) = true := h
      rw [Bool.and_eq_true] at h9
      have e : x.toNat = op := Nat.eq_of_beq_eq_true h9.1
      exact ⟨y.toNat, by rw [xa_u1 hl, e], xa_u1 (xa_dr1 hl), h9.2⟩
theorem xa_3_of {op : Nat} {c : Nat → Nat → Bool} (h : xa_3 (all.data.toList.drop pc) op c = true) : ∃ a b, (Reader.u1 : Decoder Nat) all pc = .ok (op, pc + 1) ∧ (Reader.u1 : Decoder Nat) all (pc + 1) = .ok (a, pc + 1 + 1) ∧ (Reader.u1 : Decoder Nat) all (pc + 1 + 1) = .ok (b, pc + 1 + 1 + 1) ∧ c a b = true := by
  cases hl : all.data.toList.drop pc with
  | nil => rw [hl] at h; exact absurd (show false = true from h) Bool.false_ne_true
  | cons x r =>
    cases r with
    | nil => rw [hl] at h; exact absurd (show false = true from h) Bool.false_ne_true
    | cons y r2 =>
      cases r2 with
      | nil => rw [hl] at h; exact absurd (show false = true from h) Bool.false_ne_true
      | cons z r3 =>
        rw [hl] at h
        have h9 : (Nat.beq x.toNat op && c y.toNat z.toNat) = true := h
        rw [Bool.and_eq_true] at h9
        have e : x.toNat = op := Nat.eq_of_beq_eq_true h9.1
        exact ⟨y.toNat, z.toNat, by rw [xa_u1 hl, e], xa_u1 (xa_dr1 hl), xa_u1 (xa_dr1 (xa_dr1 hl)), h9.2⟩
theorem xa_u2 (h1 : (Reader.u1 : Decoder Nat) all p = .ok (a, p1)) (h2 : (Reader.u1 : Decoder Nat) all p1 = .ok (b, p2)) : (Reader.u2 : Decoder Nat) all p = .ok (a * 256 + b, p2) := by
  show Except.bind ((Reader.u1 : Decoder Nat) all p) (fun x => Except.bind ((Reader.u1 : Decoder Nat) all x.2) (fun y => Except.ok (x.1 * 256 + y.1, y.2))) = _
  rw [h1]
  show Except.bind ((Reader.u1 : Decoder Nat) all p1) (fun y => Except.ok (a * 256 + y.1, y.2)) = _
  rw [h2] <;> rfl
theorem xa_mp {α β : Type} {m : Decoder α} {g : α → β} {x : α} (h : m all p = .ok (x, p1)) : (g <$> m : Decoder β) all p = .ok (g x, p1) := by
  show Except.bind (m all p) (fun y => Except.ok (g y.1, y.2)) = _
  rw [h] <;> rfl
theorem xa_s1 (h1 : (Reader.u1 : Decoder Nat) all p = .ok (a, p1)) : (Reader.s1 : Decoder Int) all p = .ok (Reader.signed 8 a, p1) := xa_mp h1
theorem xa_s2 (h1 : (Reader.u1 : Decoder Nat) all p = .ok (a, p1)) (h2 : (Reader.u1 : Decoder Nat) all p1 = .ok (b, p2)) : (Reader.s2 : Decoder Int) all p = .ok (Reader.signed 16 (a * 256 + b), p2) := xa_mp (xa_u2 h1 h2)
theorem xa_pu {α : Type} {m : Decoder α} {g : α → Instr} {x : α} (h : m all p = .ok (x, p1)) : (m >>= fun y => pure (g y) : Decoder Instr) all p = .ok (g x, p1) := by
  show Except.bind (m all p) (fun y => Except.ok (g y.1, y.2)) = _
  rw [h] <;> rfl
theorem xa_pp {α β : Type} {m : Decoder α} {m2 : Decoder β} {g : α → β → Instr} {x : α} {y : β} (h : m all p = .ok (x, p1)) (h2 : m2 all p1 = .ok (y, p2)) : (m >>= fun s => m2 >>= fun t => pure (g s t) : Decoder Instr) all p = .ok (g x y, p2) := by
  show Except.bind (m all p) (fun s => Except.bind (m2 all s.2) (fun t => Except.ok (g s.1 t.1, t.2))) = _
  rw [h]
  show Except.bind (m2 all p1) (fun t => Except.ok (g x t.1, t.2)) = _
  rw [h2] <;> rfl
theorem xa_dec {f : Nat → Decoder Instr} (hi : Decoder.instr pc = Reader.u1 >>= f) (h1 : (Reader.u1 : Decoder Nat) all pc = .ok (v, p1)) (h2 : f v all p1 = .ok (i, p2)) : decode all pc = .ok (i, p2 - pc) := by
  have e : Decoder.instr pc all pc = Except.bind ((Reader.u1 : Decoder Nat) all pc) (fun x => f x.1 all x.2) := by
    rw [hi] <;> rfl
  show Except.bind (Decoder.instr pc all pc) (fun x => Except.ok (x.1, x.2 - pc)) = _
  rw [e, h1]
  show Except.bind (f v all p1) (fun x => Except.ok (x.1, x.2 - pc)) = _
  rw [h2] <;> rfl
theorem xa_dec1 {f : Nat → Decoder Instr} (hi : Decoder.instr pc = Reader.u1 >>= f) (h1 : (Reader.u1 : Decoder Nat) all pc = .ok (v, pc + 1)) (h2 : f v all (pc + 1) = .ok (i, pc + 1)) : decode all pc = .ok (i, 1) := by
  rw [xa_dec hi h1 h2, show pc + 1 - pc = 1 by omega]
theorem xa_dec2 {f : Nat → Decoder Instr} (hi : Decoder.instr pc = Reader.u1 >>= f) (h1 : (Reader.u1 : Decoder Nat) all pc = .ok (v, pc + 1)) (h2 : f v all (pc + 1) = .ok (i, pc + 1 + 1)) : decode all pc = .ok (i, 2) := by
  rw [xa_dec hi h1 h2, show pc + 1 + 1 - pc = 2 by omega]
theorem xa_dec3 {f : Nat → Decoder Instr} (hi : Decoder.instr pc = Reader.u1 >>= f) (h1 : (Reader.u1 : Decoder Nat) all pc = .ok (v, pc + 1)) (h2 : f v all (pc + 1) = .ok (i, pc + 1 + 1 + 1)) : decode all pc = .ok (i, 3) := by
  rw [xa_dec hi h1 h2, show pc + 1 + 1 + 1 - pc = 3 by omega]
theorem xa_cd {b : Bool} {n : Nat} {P : Nat → Prop} (h : cond b n 0 ≠ 0) (k : b = true → P n) : P (cond b n 0) := by
  cases b with
  | false => exact absurd rfl h
  | true => exact k rfl
set_option maxRecDepth 100000 in
theorem xa_o_aaload (h : xa_1 (all.data.toList.drop pc) 50 = true) : decode all pc = .ok (.aaload, 1) := xa_dec1 rfl (xa_1_of h) rfl
set_option maxRecDepth 100000 in
theorem xa_o_aastore (h : xa_1 (all.data.toList.drop pc) 83 = true) : decode all pc = .ok (.aastore, 1) := xa_dec1 rfl (xa_1_of h) rfl
set_option maxRecDepth 100000 in
theorem xa_o_areturn (h : xa_1 (all.data.toList.drop pc) 176 = true) : decode all pc = .ok (.areturn, 1) := xa_dec1 rfl (xa_1_of h) rfl
set_option maxRecDepth 100000 in
theorem xa_o_arraylength (h : xa_1 (all.data.toList.drop pc) 190 = true) : decode all pc = .ok (.arraylength, 1) := xa_dec1 rfl (xa_1_of h) rfl
set_option maxRecDepth 100000 in
theorem xa_o_baload (h : xa_1 (all.data.toList.drop pc) 51 = true) : decode all pc = .ok (.baload, 1) := xa_dec1 rfl (xa_1_of h) rfl
set_option maxRecDepth 100000 in
theorem xa_o_bastore (h : xa_1 (all.data.toList.drop pc) 84 = true) : decode all pc = .ok (.bastore, 1) := xa_dec1 rfl (xa_1_of h) rfl
set_option maxRecDepth 100000 in
theorem xa_o_dup (h : xa_1 (all.data.toList.drop pc) 89 = true) : decode all pc = .ok (.dup, 1) := xa_dec1 rfl (xa_1_of h) rfl
set_option maxRecDepth 100000 in
theorem xa_o_dup2 (h : xa_1 (all.data.toList.drop pc) 92 = true) : decode all pc = .ok (.dup2, 1) := xa_dec1 rfl (xa_1_of h) rfl
set_option maxRecDepth 100000 in
theorem xa_o_i2l (h : xa_1 (all.data.toList.drop pc) 133 = true) : decode all pc = .ok (.i2l, 1) := xa_dec1 rfl (xa_1_of h) rfl
set_option maxRecDepth 100000 in
theorem xa_o_iadd (h : xa_1 (all.data.toList.drop pc) 96 = true) : decode all pc = .ok (.iadd, 1) := xa_dec1 rfl (xa_1_of h) rfl
set_option maxRecDepth 100000 in
theorem xa_o_iaload (h : xa_1 (all.data.toList.drop pc) 46 = true) : decode all pc = .ok (.iaload, 1) := xa_dec1 rfl (xa_1_of h) rfl
set_option maxRecDepth 100000 in
theorem xa_o_iand (h : xa_1 (all.data.toList.drop pc) 126 = true) : decode all pc = .ok (.iand, 1) := xa_dec1 rfl (xa_1_of h) rfl
set_option maxRecDepth 100000 in
theorem xa_o_iastore (h : xa_1 (all.data.toList.drop pc) 79 = true) : decode all pc = .ok (.iastore, 1) := xa_dec1 rfl (xa_1_of h) rfl
set_option maxRecDepth 100000 in
theorem xa_o_idiv (h : xa_1 (all.data.toList.drop pc) 108 = true) : decode all pc = .ok (.idiv, 1) := xa_dec1 rfl (xa_1_of h) rfl
set_option maxRecDepth 100000 in
theorem xa_o_imul (h : xa_1 (all.data.toList.drop pc) 104 = true) : decode all pc = .ok (.imul, 1) := xa_dec1 rfl (xa_1_of h) rfl
set_option maxRecDepth 100000 in
theorem xa_o_ineg (h : xa_1 (all.data.toList.drop pc) 116 = true) : decode all pc = .ok (.ineg, 1) := xa_dec1 rfl (xa_1_of h) rfl
set_option maxRecDepth 100000 in
theorem xa_o_ior (h : xa_1 (all.data.toList.drop pc) 128 = true) : decode all pc = .ok (.ior, 1) := xa_dec1 rfl (xa_1_of h) rfl
set_option maxRecDepth 100000 in
theorem xa_o_irem (h : xa_1 (all.data.toList.drop pc) 112 = true) : decode all pc = .ok (.irem, 1) := xa_dec1 rfl (xa_1_of h) rfl
set_option maxRecDepth 100000 in
theorem xa_o_ireturn (h : xa_1 (all.data.toList.drop pc) 172 = true) : decode all pc = .ok (.ireturn, 1) := xa_dec1 rfl (xa_1_of h) rfl
set_option maxRecDepth 100000 in
theorem xa_o_ishl (h : xa_1 (all.data.toList.drop pc) 120 = true) : decode all pc = .ok (.ishl, 1) := xa_dec1 rfl (xa_1_of h) rfl
set_option maxRecDepth 100000 in
theorem xa_o_ishr (h : xa_1 (all.data.toList.drop pc) 122 = true) : decode all pc = .ok (.ishr, 1) := xa_dec1 rfl (xa_1_of h) rfl
set_option maxRecDepth 100000 in
theorem xa_o_isub (h : xa_1 (all.data.toList.drop pc) 100 = true) : decode all pc = .ok (.isub, 1) := xa_dec1 rfl (xa_1_of h) rfl
set_option maxRecDepth 100000 in
theorem xa_o_iushr (h : xa_1 (all.data.toList.drop pc) 124 = true) : decode all pc = .ok (.iushr, 1) := xa_dec1 rfl (xa_1_of h) rfl
set_option maxRecDepth 100000 in
theorem xa_o_ixor (h : xa_1 (all.data.toList.drop pc) 130 = true) : decode all pc = .ok (.ixor, 1) := xa_dec1 rfl (xa_1_of h) rfl
set_option maxRecDepth 100000 in
theorem xa_o_l2i (h : xa_1 (all.data.toList.drop pc) 136 = true) : decode all pc = .ok (.l2i, 1) := xa_dec1 rfl (xa_1_of h) rfl
set_option maxRecDepth 100000 in
theorem xa_o_ladd (h : xa_1 (all.data.toList.drop pc) 97 = true) : decode all pc = .ok (.ladd, 1) := xa_dec1 rfl (xa_1_of h) rfl
set_option maxRecDepth 100000 in
theorem xa_o_laload (h : xa_1 (all.data.toList.drop pc) 47 = true) : decode all pc = .ok (.laload, 1) := xa_dec1 rfl (xa_1_of h) rfl
set_option maxRecDepth 100000 in
theorem xa_o_land (h : xa_1 (all.data.toList.drop pc) 127 = true) : decode all pc = .ok (.land, 1) := xa_dec1 rfl (xa_1_of h) rfl
set_option maxRecDepth 100000 in
theorem xa_o_lastore (h : xa_1 (all.data.toList.drop pc) 80 = true) : decode all pc = .ok (.lastore, 1) := xa_dec1 rfl (xa_1_of h) rfl
set_option maxRecDepth 100000 in
theorem xa_o_lcmp (h : xa_1 (all.data.toList.drop pc) 148 = true) : decode all pc = .ok (.lcmp, 1) := xa_dec1 rfl (xa_1_of h) rfl
set_option maxRecDepth 100000 in
theorem xa_o_ldiv (h : xa_1 (all.data.toList.drop pc) 109 = true) : decode all pc = .ok (.ldiv, 1) := xa_dec1 rfl (xa_1_of h) rfl
set_option maxRecDepth 100000 in
theorem xa_o_lmul (h : xa_1 (all.data.toList.drop pc) 105 = true) : decode all pc = .ok (.lmul, 1) := xa_dec1 rfl (xa_1_of h) rfl
set_option maxRecDepth 100000 in
theorem xa_o_lor (h : xa_1 (all.data.toList.drop pc) 129 = true) : decode all pc = .ok (.lor, 1) := xa_dec1 rfl (xa_1_of h) rfl
set_option maxRecDepth 100000 in
theorem xa_o_lreturn (h : xa_1 (all.data.toList.drop pc) 173 = true) : decode all pc = .ok (.lreturn, 1) := xa_dec1 rfl (xa_1_of h) rfl
set_option maxRecDepth 100000 in
theorem xa_o_lshl (h : xa_1 (all.data.toList.drop pc) 121 = true) : decode all pc = .ok (.lshl, 1) := xa_dec1 rfl (xa_1_of h) rfl
set_option maxRecDepth 100000 in
theorem xa_o_lshr (h : xa_1 (all.data.toList.drop pc) 123 = true) : decode all pc = .ok (.lshr, 1) := xa_dec1 rfl (xa_1_of h) rfl
set_option maxRecDepth 100000 in
theorem xa_o_lsub (h : xa_1 (all.data.toList.drop pc) 101 = true) : decode all pc = .ok (.lsub, 1) := xa_dec1 rfl (xa_1_of h) rfl
set_option maxRecDepth 100000 in
theorem xa_o_lushr (h : xa_1 (all.data.toList.drop pc) 125 = true) : decode all pc = .ok (.lushr, 1) := xa_dec1 rfl (xa_1_of h) rfl
set_option maxRecDepth 100000 in
theorem xa_o_lxor (h : xa_1 (all.data.toList.drop pc) 131 = true) : decode all pc = .ok (.lxor, 1) := xa_dec1 rfl (xa_1_of h) rfl
set_option maxRecDepth 100000 in
theorem xa_o_pop (h : xa_1 (all.data.toList.drop pc) 87 = true) : decode all pc = .ok (.pop, 1) := xa_dec1 rfl (xa_1_of h) rfl
set_option maxRecDepth 100000 in
theorem xa_o_return_ (h : xa_1 (all.data.toList.drop pc) 177 = true) : decode all pc = .ok (.return_, 1) := xa_dec1 rfl (xa_1_of h) rfl
set_option maxRecDepth 100000 in
theorem xa_o_aload_n {k : Fin 4} (h : xa_1 (all.data.toList.drop pc) (42 + k.val) = true) : decode all pc = .ok (.aload_n k, 1) := by
  have h1 := xa_1_of h
  match k, h1 with
  | ⟨0, _⟩, h1 => exact xa_dec1 (v := 42) rfl h1 rfl
  | ⟨1, _⟩, h1 => exact xa_dec1 (v := 43) rfl h1 rfl
  | ⟨2, _⟩, h1 => exact xa_dec1 (v := 44) rfl h1 rfl
  | ⟨3, _⟩, h1 => exact xa_dec1 (v := 45) rfl h1 rfl
set_option maxRecDepth 100000 in
theorem xa_o_astore_n {k : Fin 4} (h : xa_1 (all.data.toList.drop pc) (75 + k.val) = true) : decode all pc = .ok (.astore_n k, 1) := by
  have h1 := xa_1_of h
  match k, h1 with
  | ⟨0, _⟩, h1 => exact xa_dec1 (v := 75) rfl h1 rfl
  | ⟨1, _⟩, h1 => exact xa_dec1 (v := 76) rfl h1 rfl
  | ⟨2, _⟩, h1 => exact xa_dec1 (v := 77) rfl h1 rfl
  | ⟨3, _⟩, h1 => exact xa_dec1 (v := 78) rfl h1 rfl
set_option maxRecDepth 100000 in
theorem xa_o_iload_n {k : Fin 4} (h : xa_1 (all.data.toList.drop pc) (26 + k.val) = true) : decode all pc = .ok (.iload_n k, 1) := by
  have h1 := xa_1_of h
  match k, h1 with
  | ⟨0, _⟩, h1 => exact xa_dec1 (v := 26) rfl h1 rfl
  | ⟨1, _⟩, h1 => exact xa_dec1 (v := 27) rfl h1 rfl
  | ⟨2, _⟩, h1 => exact xa_dec1 (v := 28) rfl h1 rfl
  | ⟨3, _⟩, h1 => exact xa_dec1 (v := 29) rfl h1 rfl
set_option maxRecDepth 100000 in
theorem xa_o_istore_n {k : Fin 4} (h : xa_1 (all.data.toList.drop pc) (59 + k.val) = true) : decode all pc = .ok (.istore_n k, 1) := by
  have h1 := xa_1_of h
  match k, h1 with
  | ⟨0, _⟩, h1 => exact xa_dec1 (v := 59) rfl h1 rfl
  | ⟨1, _⟩, h1 => exact xa_dec1 (v := 60) rfl h1 rfl
  | ⟨2, _⟩, h1 => exact xa_dec1 (v := 61) rfl h1 rfl
  | ⟨3, _⟩, h1 => exact xa_dec1 (v := 62) rfl h1 rfl
set_option maxRecDepth 100000 in
theorem xa_o_lload_n {k : Fin 4} (h : xa_1 (all.data.toList.drop pc) (30 + k.val) = true) : decode all pc = .ok (.lload_n k, 1) := by
  have h1 := xa_1_of h
  match k, h1 with
  | ⟨0, _⟩, h1 => exact xa_dec1 (v := 30) rfl h1 rfl
  | ⟨1, _⟩, h1 => exact xa_dec1 (v := 31) rfl h1 rfl
  | ⟨2, _⟩, h1 => exact xa_dec1 (v := 32) rfl h1 rfl
  | ⟨3, _⟩, h1 => exact xa_dec1 (v := 33) rfl h1 rfl
set_option maxRecDepth 100000 in
theorem xa_o_lstore_n {k : Fin 4} (h : xa_1 (all.data.toList.drop pc) (63 + k.val) = true) : decode all pc = .ok (.lstore_n k, 1) := by
  have h1 := xa_1_of h
  match k, h1 with
  | ⟨0, _⟩, h1 => exact xa_dec1 (v := 63) rfl h1 rfl
  | ⟨1, _⟩, h1 => exact xa_dec1 (v := 64) rfl h1 rfl
  | ⟨2, _⟩, h1 => exact xa_dec1 (v := 65) rfl h1 rfl
  | ⟨3, _⟩, h1 => exact xa_dec1 (v := 66) rfl h1 rfl
set_option maxRecDepth 100000 in
theorem xa_o_lconst {k : Fin 2} (h : xa_1 (all.data.toList.drop pc) (9 + k.val) = true) : decode all pc = .ok (.lconst k, 1) := by
  have h1 := xa_1_of h
  match k, h1 with
  | ⟨0, _⟩, h1 => exact xa_dec1 (v := 9) rfl h1 rfl
  | ⟨1, _⟩, h1 => exact xa_dec1 (v := 10) rfl h1 rfl
set_option maxRecDepth 100000 in
theorem xa_o_iconst {k : Int} (h : (xa_1 (all.data.toList.drop pc) (k + 3).toNat && (Nat.blt 1 (k + 3).toNat && Nat.blt (k + 3).toNat 9)) = true) : decode all pc = .ok (.iconst k, 1) := by
  rw [Bool.and_eq_true, Bool.and_eq_true] at h
  have h1 := xa_1_of h.1
  have h2 : 1 < (k + 3).toNat := Nat.le_of_ble_eq_true h.2.1
  have h3 : (k + 3).toNat < 9 := Nat.le_of_ble_eq_true h.2.2
  by_cases q0 : k = -1
  · subst q0
    exact xa_dec1 (v := 2) rfl h1 rfl
  by_cases q1 : k = 0
  · subst q1
    exact xa_dec1 (v := 3) rfl h1 rfl
  by_cases q2 : k = 1
  · subst q2
    exact xa_dec1 (v := 4) rfl h1 rfl
  by_cases q3 : k = 2
  · subst q3
    exact xa_dec1 (v := 5) rfl h1 rfl
  by_cases q4 : k = 3
  · subst q4
    exact xa_dec1 (v := 6) rfl h1 rfl
  by_cases q5 : k = 4
  · subst q5
    exact xa_dec1 (v := 7) rfl h1 rfl
  by_cases q6 : k = 5
  · subst q6
    exact xa_dec1 (v := 8) rfl h1 rfl
  omega
set_option maxRecDepth 100000 in
theorem xa_o_aload {k : Nat} (h : xa_2 (all.data.toList.drop pc) 25 (fun a => Nat.beq a k) = true) : decode all pc = .ok (.aload k, 2) := by
  obtain ⟨a, h1, h2, h3⟩ := xa_2_of h
  have e : a = k := Nat.eq_of_beq_eq_true h3
  subst e
  exact xa_dec2 rfl h1 (xa_pu (g := Instr.aload) h2)
set_option maxRecDepth 100000 in
theorem xa_o_astore {k : Nat} (h : xa_2 (all.data.toList.drop pc) 58 (fun a => Nat.beq a k) = true) : decode all pc = .ok (.astore k, 2) := by
  obtain ⟨a, h1, h2, h3⟩ := xa_2_of h
  have e : a = k := Nat.eq_of_beq_eq_true h3
  subst e
  exact xa_dec2 rfl h1 (xa_pu (g := Instr.astore) h2)
set_option maxRecDepth 100000 in
theorem xa_o_iload {k : Nat} (h : xa_2 (all.data.toList.drop pc) 21 (fun a => Nat.beq a k) = true) : decode all pc = .ok (.iload k, 2) := by
  obtain ⟨a, h1, h2, h3⟩ := xa_2_of h
  have e : a = k := Nat.eq_of_beq_eq_true h3
  subst e
  exact xa_dec2 rfl h1 (xa_pu (g := Instr.iload) h2)
set_option maxRecDepth 100000 in
theorem xa_o_istore {k : Nat} (h : xa_2 (all.data.toList.drop pc) 54 (fun a => Nat.beq a k) = true) : decode all pc = .ok (.istore k, 2) := by
  obtain ⟨a, h1, h2, h3⟩ := xa_2_of h
  have e : a = k := Nat.eq_of_beq_eq_true h3
  subst e
  exact xa_dec2 rfl h1 (xa_pu (g := Instr.istore) h2)
set_option maxRecDepth 100000 in
theorem xa_o_ldc {k : Nat} (h : xa_2 (all.data.toList.drop pc) 18 (fun a => Nat.beq a k) = true) : decode all pc = .ok (.ldc k, 2) := by
  obtain ⟨a, h1, h2, h3⟩ := xa_2_of h
  have e : a = k := Nat.eq_of_beq_eq_true h3
  subst e
  exact xa_dec2 rfl h1 (xa_pu (g := Instr.ldc) h2)
set_option maxRecDepth 100000 in
theorem xa_o_lload {k : Nat} (h : xa_2 (all.data.toList.drop pc) 22 (fun a => Nat.beq a k) = true) : decode all pc = .ok (.lload k, 2) := by
  obtain ⟨a, h1, h2, h3⟩ := xa_2_of h
  have e : a = k := Nat.eq_of_beq_eq_true h3
  subst e
  exact xa_dec2 rfl h1 (xa_pu (g := Instr.lload) h2)
set_option maxRecDepth 100000 in
theorem xa_o_lstore {k : Nat} (h : xa_2 (all.data.toList.drop pc) 55 (fun a => Nat.beq a k) = true) : decode all pc = .ok (.lstore k, 2) := by
  obtain ⟨a, h1, h2, h3⟩ := xa_2_of h
  have e : a = k := Nat.eq_of_beq_eq_true h3
  subst e
  exact xa_dec2 rfl h1 (xa_pu (g := Instr.lstore) h2)
set_option maxRecDepth 100000 in
theorem xa_o_bipush {k : Int} (h : xa_2 (all.data.toList.drop pc) 16 (fun a => decide (Reader.signed 8 a = k)) = true) : decode all pc = .ok (.bipush k, 2) := by
  obtain ⟨a, h1, h2, h3⟩ := xa_2_of h
  have e : Reader.signed 8 a = k := of_decide_eq_true h3
  subst e
  exact xa_dec2 rfl h1 (xa_pu (g := Instr.bipush) (xa_s1 h2))
set_option maxRecDepth 100000 in
theorem xa_o_anewarray {k : Nat} (h : xa_3 (all.data.toList.drop pc) 189 (fun a b => Nat.beq (a * 256 + b) k) = true) : decode all pc = .ok (.anewarray k, 3) := by
  obtain ⟨a, b, h1, h2, h3, h4⟩ := xa_3_of h
  have e : a * 256 + b = k := Nat.eq_of_beq_eq_true h4
  subst e
  exact xa_dec3 rfl h1 (xa_pu (g := Instr.anewarray) (xa_u2 h2 h3))
set_option maxRecDepth 100000 in
theorem xa_o_getfield {k : Nat} (h : xa_3 (all.data.toList.drop pc) 180 (fun a b => Nat.beq (a * 256 + b) k) = true) : decode all pc = .ok (.getfield k, 3) := by
  obtain ⟨a, b, h1, h2, h3, h4⟩ := xa_3_of h
  have e : a * 256 + b = k := Nat.eq_of_beq_eq_true h4
  subst e
  exact xa_dec3 rfl h1 (xa_pu (g := Instr.getfield) (xa_u2 h2 h3))
set_option maxRecDepth 100000 in
theorem xa_o_getstatic {k : Nat} (h : xa_3 (all.data.toList.drop pc) 178 (fun a b => Nat.beq (a * 256 + b) k) = true) : decode all pc = .ok (.getstatic k, 3) := by
  obtain ⟨a, b, h1, h2, h3, h4⟩ := xa_3_of h
  have e : a * 256 + b = k := Nat.eq_of_beq_eq_true h4
  subst e
  exact xa_dec3 rfl h1 (xa_pu (g := Instr.getstatic) (xa_u2 h2 h3))
set_option maxRecDepth 100000 in
theorem xa_o_invokespecial {k : Nat} (h : xa_3 (all.data.toList.drop pc) 183 (fun a b => Nat.beq (a * 256 + b) k) = true) : decode all pc = .ok (.invokespecial k, 3) := by
  obtain ⟨a, b, h1, h2, h3, h4⟩ := xa_3_of h
  have e : a * 256 + b = k := Nat.eq_of_beq_eq_true h4
  subst e
  exact xa_dec3 rfl h1 (xa_pu (g := Instr.invokespecial) (xa_u2 h2 h3))
set_option maxRecDepth 100000 in
theorem xa_o_invokestatic {k : Nat} (h : xa_3 (all.data.toList.drop pc) 184 (fun a b => Nat.beq (a * 256 + b) k) = true) : decode all pc = .ok (.invokestatic k, 3) := by
  obtain ⟨a, b, h1, h2, h3, h4⟩ := xa_3_of h
  have e : a * 256 + b = k := Nat.eq_of_beq_eq_true h4
  subst e
  exact xa_dec3 rfl h1 (xa_pu (g := Instr.invokestatic) (xa_u2 h2 h3))
set_option maxRecDepth 100000 in
theorem xa_o_invokevirtual {k : Nat} (h : xa_3 (all.data.toList.drop pc) 182 (fun a b => Nat.beq (a * 256 + b) k) = true) : decode all pc = .ok (.invokevirtual k, 3) := by
  obtain ⟨a, b, h1, h2, h3, h4⟩ := xa_3_of h
  have e : a * 256 + b = k := Nat.eq_of_beq_eq_true h4
  subst e
  exact xa_dec3 rfl h1 (xa_pu (g := Instr.invokevirtual) (xa_u2 h2 h3))
set_option maxRecDepth 100000 in
theorem xa_o_ldc_w {k : Nat} (h : xa_3 (all.data.toList.drop pc) 19 (fun a b => Nat.beq (a * 256 + b) k) = true) : decode all pc = .ok (.ldc_w k, 3) := by
  obtain ⟨a, b, h1, h2, h3, h4⟩ := xa_3_of h
  have e : a * 256 + b = k := Nat.eq_of_beq_eq_true h4
  subst e
  exact xa_dec3 rfl h1 (xa_pu (g := Instr.ldc_w) (xa_u2 h2 h3))
set_option maxRecDepth 100000 in
theorem xa_o_ldc2_w {k : Nat} (h : xa_3 (all.data.toList.drop pc) 20 (fun a b => Nat.beq (a * 256 + b) k) = true) : decode all pc = .ok (.ldc2_w k, 3) := by
  obtain ⟨a, b, h1, h2, h3, h4⟩ := xa_3_of h
  have e : a * 256 + b = k := Nat.eq_of_beq_eq_true h4
  subst e
  exact xa_dec3 rfl h1 (xa_pu (g := Instr.ldc2_w) (xa_u2 h2 h3))
set_option maxRecDepth 100000 in
theorem xa_o_new {k : Nat} (h : xa_3 (all.data.toList.drop pc) 187 (fun a b => Nat.beq (a * 256 + b) k) = true) : decode all pc = .ok (.new k, 3) := by
  obtain ⟨a, b, h1, h2, h3, h4⟩ := xa_3_of h
  have e : a * 256 + b = k := Nat.eq_of_beq_eq_true h4
  subst e
  exact xa_dec3 rfl h1 (xa_pu (g := Instr.new) (xa_u2 h2 h3))
set_option maxRecDepth 100000 in
theorem xa_o_putfield {k : Nat} (h : xa_3 (all.data.toList.drop pc) 181 (fun a b => Nat.beq (a * 256 + b) k) = true) : decode all pc = .ok (.putfield k, 3) := by
  obtain ⟨a, b, h1, h2, h3, h4⟩ := xa_3_of h
  have e : a * 256 + b = k := Nat.eq_of_beq_eq_true h4
  subst e
  exact xa_dec3 rfl h1 (xa_pu (g := Instr.putfield) (xa_u2 h2 h3))
set_option maxRecDepth 100000 in
theorem xa_o_sipush {k : Int} (h : xa_3 (all.data.toList.drop pc) 17 (fun a b => decide (Reader.signed 16 (a * 256 + b) = k)) = true) : decode all pc = .ok (.sipush k, 3) := by
  obtain ⟨a, b, h1, h2, h3, h4⟩ := xa_3_of h
  have e : Reader.signed 16 (a * 256 + b) = k := of_decide_eq_true h4
  subst e
  exact xa_dec3 rfl h1 (xa_pu (g := Instr.sipush) (xa_s2 h2 h3))
set_option maxRecDepth 100000 in
theorem xa_o_goto {k : Int} (h : xa_3 (all.data.toList.drop pc) 167 (fun a b => decide (Reader.signed 16 (a * 256 + b) = k)) = true) : decode all pc = .ok (.goto k, 3) := by
  obtain ⟨a, b, h1, h2, h3, h4⟩ := xa_3_of h
  have e : Reader.signed 16 (a * 256 + b) = k := of_decide_eq_true h4
  subst e
  exact xa_dec3 rfl h1 (xa_pu (g := Instr.goto) (xa_s2 h2 h3))
def xa_cc (base : Nat) : ClassFile.Cond → Nat
  | .eq => base + 0
  | .ne => base + 1
  | .lt => base + 2
  | .ge => base + 3
  | .gt => base + 4
  | .le => base + 5
set_option maxRecDepth 100000 in
theorem xa_o_ifCond {c : ClassFile.Cond} {k : Int} (h : xa_3 (all.data.toList.drop pc) (xa_cc 153 c) (fun a b => decide (Reader.signed 16 (a * 256 + b) = k)) = true) : decode all pc = .ok (.ifCond c k, 3) := by
  obtain ⟨a, b, h1, h2, h3, h4⟩ := xa_3_of h
  have e : Reader.signed 16 (a * 256 + b) = k := of_decide_eq_true h4
  subst e
  cases c with
  | eq => exact xa_dec3 (v := 153) rfl h1 (xa_pu (g := Instr.ifCond .eq) (xa_s2 h2 h3))
  | ne => exact xa_dec3 (v := 154) rfl h1 (xa_pu (g := Instr.ifCond .ne) (xa_s2 h2 h3))
  | lt => exact xa_dec3 (v := 155) rfl h1 (xa_pu (g := Instr.ifCond .lt) (xa_s2 h2 h3))
  | ge => exact xa_dec3 (v := 156) rfl h1 (xa_pu (g := Instr.ifCond .ge) (xa_s2 h2 h3))
  | gt => exact xa_dec3 (v := 157) rfl h1 (xa_pu (g := Instr.ifCond .gt) (xa_s2 h2 h3))
  | le => exact xa_dec3 (v := 158) rfl h1 (xa_pu (g := Instr.ifCond .le) (xa_s2 h2 h3))
set_option maxRecDepth 100000 in
theorem xa_o_if_icmp {c : ClassFile.Cond} {k : Int} (h : xa_3 (all.data.toList.drop pc) (xa_cc 159 c) (fun a b => decide (Reader.signed 16 (a * 256 + b) = k)) = true) : decode all pc = .ok (.if_icmp c k, 3) := by
  obtain ⟨a, b, h1, h2, h3, h4⟩ := xa_3_of h
  have e : Reader.signed 16 (a * 256 + b) = k := of_decide_eq_true h4
  subst e
  cases c with
  | eq => exact xa_dec3 (v := 159) rfl h1 (xa_pu (g := Instr.if_icmp .eq) (xa_s2 h2 h3))
  | ne => exact xa_dec3 (v := 160) rfl h1 (xa_pu (g := Instr.if_icmp .ne) (xa_s2 h2 h3))
  | lt => exact xa_dec3 (v := 161) rfl h1 (xa_pu (g := Instr.if_icmp .lt) (xa_s2 h2 h3))
  | ge => exact xa_dec3 (v := 162) rfl h1 (xa_pu (g := Instr.if_icmp .ge) (xa_s2 h2 h3))
  | gt => exact xa_dec3 (v := 163) rfl h1 (xa_pu (g := Instr.if_icmp .gt) (xa_s2 h2 h3))
  | le => exact xa_dec3 (v := 164) rfl h1 (xa_pu (g := Instr.if_icmp .le) (xa_s2 h2 h3))
set_option maxRecDepth 100000 in
theorem xa_o_iinc {k : Nat} {w : Int} (h : xa_3 (all.data.toList.drop pc) 132 (fun a b => Nat.beq a k && decide (Reader.signed 8 b = w)) = true) : decode all pc = .ok (.iinc k w, 3) := by
  obtain ⟨a, b, h1, h2, h3, h4⟩ := xa_3_of h
  rw [Bool.and_eq_true] at h4
  have e : a = k := Nat.eq_of_beq_eq_true h4.1
  have e2 : Reader.signed 8 b = w := of_decide_eq_true h4.2
  subst e
  subst e2
  exact xa_dec3 rfl h1 (xa_pp (g := Instr.iinc) h2 (xa_s1 h3))
def xa_at : ArrayType → Nat
  | .boolean => 4
  | .int => 10
  | .long => 11
  | _ => 0
set_option maxRecDepth 100000 in
theorem xa_o_na {t : ArrayType} (h2 : (Reader.u1 : Decoder Nat) all p = .ok (xa_at t, p1)) (h : 0 < xa_at t) : Decoder.newarray pc all p = .ok (.newarray t, p1) := by
  cases t with
  | boolean =>
    show Except.bind ((Reader.u1 : Decoder Nat) all p) _ = _
    rw [h2] <;> rfl
  | int =>
    show Except.bind ((Reader.u1 : Decoder Nat) all p) _ = _
    rw [h2] <;> rfl
  | long =>
    show Except.bind ((Reader.u1 : Decoder Nat) all p) _ = _
    rw [h2] <;> rfl
  | _ => exact absurd h (Nat.lt_irrefl 0)
set_option maxRecDepth 100000 in
theorem xa_o_newarray {t : ArrayType} (h : xa_2 (all.data.toList.drop pc) 188 (fun a => Nat.beq a (xa_at t) && Nat.blt 0 (xa_at t)) = true) : decode all pc = .ok (.newarray t, 2) := by
  obtain ⟨a, h1, h2, h3⟩ := xa_2_of h
  rw [Bool.and_eq_true] at h3
  have e : a = xa_at t := Nat.eq_of_beq_eq_true h3.1
  subst e
  exact xa_dec2 rfl h1 (xa_o_na h2 (Nat.le_of_ble_eq_true h3.2))
end FA
def xa_k (i : Instr) (l : List UInt8) : Nat := match i with
  | .aaload => cond (xa_1 l 50) 1 0
  | .aastore => cond (xa_1 l 83) 1 0
  | .areturn => cond (xa_1 l 176) 1 0
  | .arraylength => cond (xa_1 l 190) 1 0
  | .baload => cond (xa_1 l 51) 1 0
  | .bastore => cond (xa_1 l 84) 1 0
  | .dup => cond (xa_1 l 89) 1 0
  | .dup2 => cond (xa_1 l 92) 1 0
  | .i2l => cond (xa_1 l 133) 1 0
  | .iadd => cond (xa_1 l 96) 1 0
  | .iaload => cond (xa_1 l 46) 1 0
  | .iand => cond (xa_1 l 126) 1 0
  | .iastore => cond (xa_1 l 79) 1 0
  | .idiv => cond (xa_1 l 108) 1 0
  | .imul => cond (xa_1 l 104) 1 0
  | .ineg => cond (xa_1 l 116) 1 0
  | .ior => cond (xa_1 l 128) 1 0
  | .irem => cond (xa_1 l 112) 1 0
  | .ireturn => cond (xa_1 l 172) 1 0
  | .ishl => cond (xa_1 l 120) 1 0
  | .ishr => cond (xa_1 l 122) 1 0
  | .isub => cond (xa_1 l 100) 1 0
  | .iushr => cond (xa_1 l 124) 1 0
  | .ixor => cond (xa_1 l 130) 1 0
  | .l2i => cond (xa_1 l 136) 1 0
  | .ladd => cond (xa_1 l 97) 1 0
  | .laload => cond (xa_1 l 47) 1 0
  | .land => cond (xa_1 l 127) 1 0
  | .lastore => cond (xa_1 l 80) 1 0
  | .lcmp => cond (xa_1 l 148) 1 0
  | .ldiv => cond (xa_1 l 109) 1 0
  | .lmul => cond (xa_1 l 105) 1 0
  | .lor => cond (xa_1 l 129) 1 0
  | .lreturn => cond (xa_1 l 173) 1 0
  | .lshl => cond (xa_1 l 121) 1 0
  | .lshr => cond (xa_1 l 123) 1 0
  | .lsub => cond (xa_1 l 101) 1 0
  | .lushr => cond (xa_1 l 125) 1 0
  | .lxor => cond (xa_1 l 131) 1 0
  | .pop => cond (xa_1 l 87) 1 0
  | .return_ => cond (xa_1 l 177) 1 0
  | .aload_n k => cond (xa_1 l (42 + k.val)) 1 0
  | .astore_n k => cond (xa_1 l (75 + k.val)) 1 0
  | .iload_n k => cond (xa_1 l (26 + k.val)) 1 0
  | .istore_n k => cond (xa_1 l (59 + k.val)) 1 0
  | .lload_n k => cond (xa_1 l (30 + k.val)) 1 0
  | .lstore_n k => cond (xa_1 l (63 + k.val)) 1 0
  | .lconst k => cond (xa_1 l (9 + k.val)) 1 0
  | .iconst v => cond (xa_1 l (v + 3).toNat && (Nat.blt 1 (v + 3).toNat && Nat.blt (v + 3).toNat 9)) 1 0
  | .aload v => cond (xa_2 l 25 (fun a => Nat.beq a v)) 2 0
  | .astore v => cond (xa_2 l 58 (fun a => Nat.beq a v)) 2 0
  | .iload v => cond (xa_2 l 21 (fun a => Nat.beq a v)) 2 0
  | .istore v => cond (xa_2 l 54 (fun a => Nat.beq a v)) 2 0
  | .ldc v => cond (xa_2 l 18 (fun a => Nat.beq a v)) 2 0
  | .lload v => cond (xa_2 l 22 (fun a => Nat.beq a v)) 2 0
  | .lstore v => cond (xa_2 l 55 (fun a => Nat.beq a v)) 2 0
  | .bipush v => cond (xa_2 l 16 (fun a => decide (Reader.signed 8 a = v))) 2 0
  | .anewarray v => cond (xa_3 l 189 (fun a b => Nat.beq (a * 256 + b) v)) 3 0
  | .getfield v => cond (xa_3 l 180 (fun a b => Nat.beq (a * 256 + b) v)) 3 0
  | .getstatic v => cond (xa_3 l 178 (fun a b => Nat.beq (a * 256 + b) v)) 3 0
  | .invokespecial v => cond (xa_3 l 183 (fun a b => Nat.beq (a * 256 + b) v)) 3 0
  | .invokestatic v => cond (xa_3 l 184 (fun a b => Nat.beq (a * 256 + b) v)) 3 0
  | .invokevirtual v => cond (xa_3 l 182 (fun a b => Nat.beq (a * 256 + b) v)) 3 0
  | .ldc_w v => cond (xa_3 l 19 (fun a b => Nat.beq (a * 256 + b) v)) 3 0
  | .ldc2_w v => cond (xa_3 l 20 (fun a b => Nat.beq (a * 256 + b) v)) 3 0
  | .new v => cond (xa_3 l 187 (fun a b => Nat.beq (a * 256 + b) v)) 3 0
  | .putfield v => cond (xa_3 l 181 (fun a b => Nat.beq (a * 256 + b) v)) 3 0
  | .sipush v => cond (xa_3 l 17 (fun a b => decide (Reader.signed 16 (a * 256 + b) = v))) 3 0
  | .goto v => cond (xa_3 l 167 (fun a b => decide (Reader.signed 16 (a * 256 + b) = v))) 3 0
  | .ifCond c v => cond (xa_3 l (xa_cc 153 c) (fun a b => decide (Reader.signed 16 (a * 256 + b) = v))) 3 0
  | .if_icmp c v => cond (xa_3 l (xa_cc 159 c) (fun a b => decide (Reader.signed 16 (a * 256 + b) = v))) 3 0
  | .iinc v w => cond (xa_3 l 132 (fun a b => Nat.beq a v && decide (Reader.signed 8 b = w))) 3 0
  | .newarray t => cond (xa_2 l 188 (fun a => Nat.beq a (xa_at t) && Nat.blt 0 (xa_at t))) 2 0
  | _ => 0
set_option maxRecDepth 100000 in
theorem xa_k_ok {all : ByteArray} {pc : Nat} {i : Instr} (h : xa_k i (all.data.toList.drop pc) ≠ 0) : decode all pc = .ok (i, xa_k i (all.data.toList.drop pc)) := by
  cases i
  case aaload => exact xa_cd (P := fun n => decode all pc = .ok (.aaload, n)) h (fun hb => xa_o_aaload hb)
  case aastore => exact xa_cd (P := fun n => decode all pc = .ok (.aastore, n)) h (fun hb => xa_o_aastore hb)
  case areturn => exact xa_cd (P := fun n => decode all pc = .ok (.areturn, n)) h (fun hb => xa_o_areturn hb)
  case arraylength => exact xa_cd (P := fun n => decode all pc = .ok (.arraylength, n)) h (fun hb => xa_o_arraylength hb)
  case baload => exact xa_cd (P := fun n => decode all pc = .ok (.baload, n)) h (fun hb => xa_o_baload hb)
  case bastore => exact xa_cd (P := fun n => decode all pc = .ok (.bastore, n)) h (fun hb => xa_o_bastore hb)
  case dup => exact xa_cd (P := fun n => decode all pc = .ok (.dup, n)) h (fun hb => xa_o_dup hb)
  case dup2 => exact xa_cd (P := fun n => decode all pc = .ok (.dup2, n)) h (fun hb => xa_o_dup2 hb)
  case i2l => exact xa_cd (P := fun n => decode all pc = .ok (.i2l, n)) h (fun hb => xa_o_i2l hb)
  case iadd => exact xa_cd (P := fun n => decode all pc = .ok (.iadd, n)) h (fun hb => xa_o_iadd hb)
  case iaload => exact xa_cd (P := fun n => decode all pc = .ok (.iaload, n)) h (fun hb => xa_o_iaload hb)
  case iand => exact xa_cd (P := fun n => decode all pc = .ok (.iand, n)) h (fun hb => xa_o_iand hb)
  case iastore => exact xa_cd (P := fun n => decode all pc = .ok (.iastore, n)) h (fun hb => xa_o_iastore hb)
  case idiv => exact xa_cd (P := fun n => decode all pc = .ok (.idiv, n)) h (fun hb => xa_o_idiv hb)
  case imul => exact xa_cd (P := fun n => decode all pc = .ok (.imul, n)) h (fun hb => xa_o_imul hb)
  case ineg => exact xa_cd (P := fun n => decode all pc = .ok (.ineg, n)) h (fun hb => xa_o_ineg hb)
  case ior => exact xa_cd (P := fun n => decode all pc = .ok (.ior, n)) h (fun hb => xa_o_ior hb)
  case irem => exact xa_cd (P := fun n => decode all pc = .ok (.irem, n)) h (fun hb => xa_o_irem hb)
  case ireturn => exact xa_cd (P := fun n => decode all pc = .ok (.ireturn, n)) h (fun hb => xa_o_ireturn hb)
  case ishl => exact xa_cd (P := fun n => decode all pc = .ok (.ishl, n)) h (fun hb => xa_o_ishl hb)
  case ishr => exact xa_cd (P := fun n => decode all pc = .ok (.ishr, n)) h (fun hb => xa_o_ishr hb)
  case isub => exact xa_cd (P := fun n => decode all pc = .ok (.isub, n)) h (fun hb => xa_o_isub hb)
  case iushr => exact xa_cd (P := fun n => decode all pc = .ok (.iushr, n)) h (fun hb => xa_o_iushr hb)
  case ixor => exact xa_cd (P := fun n => decode all pc = .ok (.ixor, n)) h (fun hb => xa_o_ixor hb)
  case l2i => exact xa_cd (P := fun n => decode all pc = .ok (.l2i, n)) h (fun hb => xa_o_l2i hb)
  case ladd => exact xa_cd (P := fun n => decode all pc = .ok (.ladd, n)) h (fun hb => xa_o_ladd hb)
  case laload => exact xa_cd (P := fun n => decode all pc = .ok (.laload, n)) h (fun hb => xa_o_laload hb)
  case land => exact xa_cd (P := fun n => decode all pc = .ok (.land, n)) h (fun hb => xa_o_land hb)
  case lastore => exact xa_cd (P := fun n => decode all pc = .ok (.lastore, n)) h (fun hb => xa_o_lastore hb)
  case lcmp => exact xa_cd (P := fun n => decode all pc = .ok (.lcmp, n)) h (fun hb => xa_o_lcmp hb)
  case ldiv => exact xa_cd (P := fun n => decode all pc = .ok (.ldiv, n)) h (fun hb => xa_o_ldiv hb)
  case lmul => exact xa_cd (P := fun n => decode all pc = .ok (.lmul, n)) h (fun hb => xa_o_lmul hb)
  case lor => exact xa_cd (P := fun n => decode all pc = .ok (.lor, n)) h (fun hb => xa_o_lor hb)
  case lreturn => exact xa_cd (P := fun n => decode all pc = .ok (.lreturn, n)) h (fun hb => xa_o_lreturn hb)
  case lshl => exact xa_cd (P := fun n => decode all pc = .ok (.lshl, n)) h (fun hb => xa_o_lshl hb)
  case lshr => exact xa_cd (P := fun n => decode all pc = .ok (.lshr, n)) h (fun hb => xa_o_lshr hb)
  case lsub => exact xa_cd (P := fun n => decode all pc = .ok (.lsub, n)) h (fun hb => xa_o_lsub hb)
  case lushr => exact xa_cd (P := fun n => decode all pc = .ok (.lushr, n)) h (fun hb => xa_o_lushr hb)
  case lxor => exact xa_cd (P := fun n => decode all pc = .ok (.lxor, n)) h (fun hb => xa_o_lxor hb)
  case pop => exact xa_cd (P := fun n => decode all pc = .ok (.pop, n)) h (fun hb => xa_o_pop hb)
  case return_ => exact xa_cd (P := fun n => decode all pc = .ok (.return_, n)) h (fun hb => xa_o_return_ hb)
  case aload_n k => exact xa_cd (P := fun n => decode all pc = .ok (.aload_n k, n)) h (fun hb => xa_o_aload_n hb)
  case astore_n k => exact xa_cd (P := fun n => decode all pc = .ok (.astore_n k, n)) h (fun hb => xa_o_astore_n hb)
  case iload_n k => exact xa_cd (P := fun n => decode all pc = .ok (.iload_n k, n)) h (fun hb => xa_o_iload_n hb)
  case istore_n k => exact xa_cd (P := fun n => decode all pc = .ok (.istore_n k, n)) h (fun hb => xa_o_istore_n hb)
  case lload_n k => exact xa_cd (P := fun n => decode all pc = .ok (.lload_n k, n)) h (fun hb => xa_o_lload_n hb)
  case lstore_n k => exact xa_cd (P := fun n => decode all pc = .ok (.lstore_n k, n)) h (fun hb => xa_o_lstore_n hb)
  case lconst k => exact xa_cd (P := fun n => decode all pc = .ok (.lconst k, n)) h (fun hb => xa_o_lconst hb)
  case iconst k => exact xa_cd (P := fun n => decode all pc = .ok (.iconst k, n)) h (fun hb => xa_o_iconst hb)
  case aload k => exact xa_cd (P := fun n => decode all pc = .ok (.aload k, n)) h (fun hb => xa_o_aload hb)
  case astore k => exact xa_cd (P := fun n => decode all pc = .ok (.astore k, n)) h (fun hb => xa_o_astore hb)
  case iload k => exact xa_cd (P := fun n => decode all pc = .ok (.iload k, n)) h (fun hb => xa_o_iload hb)
  case istore k => exact xa_cd (P := fun n => decode all pc = .ok (.istore k, n)) h (fun hb => xa_o_istore hb)
  case ldc k => exact xa_cd (P := fun n => decode all pc = .ok (.ldc k, n)) h (fun hb => xa_o_ldc hb)
  case lload k => exact xa_cd (P := fun n => decode all pc = .ok (.lload k, n)) h (fun hb => xa_o_lload hb)
  case lstore k => exact xa_cd (P := fun n => decode all pc = .ok (.lstore k, n)) h (fun hb => xa_o_lstore hb)
  case bipush k => exact xa_cd (P := fun n => decode all pc = .ok (.bipush k, n)) h (fun hb => xa_o_bipush hb)
  case anewarray k => exact xa_cd (P := fun n => decode all pc = .ok (.anewarray k, n)) h (fun hb => xa_o_anewarray hb)
  case getfield k => exact xa_cd (P := fun n => decode all pc = .ok (.getfield k, n)) h (fun hb => xa_o_getfield hb)
  case getstatic k => exact xa_cd (P := fun n => decode all pc = .ok (.getstatic k, n)) h (fun hb => xa_o_getstatic hb)
  case invokespecial k => exact xa_cd (P := fun n => decode all pc = .ok (.invokespecial k, n)) h (fun hb => xa_o_invokespecial hb)
  case invokestatic k => exact xa_cd (P := fun n => decode all pc = .ok (.invokestatic k, n)) h (fun hb => xa_o_invokestatic hb)
  case invokevirtual k => exact xa_cd (P := fun n => decode all pc = .ok (.invokevirtual k, n)) h (fun hb => xa_o_invokevirtual hb)
  case ldc_w k => exact xa_cd (P := fun n => decode all pc = .ok (.ldc_w k, n)) h (fun hb => xa_o_ldc_w hb)
  case ldc2_w k => exact xa_cd (P := fun n => decode all pc = .ok (.ldc2_w k, n)) h (fun hb => xa_o_ldc2_w hb)
  case new k => exact xa_cd (P := fun n => decode all pc = .ok (.new k, n)) h (fun hb => xa_o_new hb)
  case putfield k => exact xa_cd (P := fun n => decode all pc = .ok (.putfield k, n)) h (fun hb => xa_o_putfield hb)
  case sipush k => exact xa_cd (P := fun n => decode all pc = .ok (.sipush k, n)) h (fun hb => xa_o_sipush hb)
  case goto k => exact xa_cd (P := fun n => decode all pc = .ok (.goto k, n)) h (fun hb => xa_o_goto hb)
  case ifCond c k => exact xa_cd (P := fun n => decode all pc = .ok (.ifCond c k, n)) h (fun hb => xa_o_ifCond hb)
  case if_icmp c k => exact xa_cd (P := fun n => decode all pc = .ok (.if_icmp c k, n)) h (fun hb => xa_o_if_icmp hb)
  case iinc k w => exact xa_cd (P := fun n => decode all pc = .ok (.iinc k w, n)) h (fun hb => xa_o_iinc hb)
  case newarray t => exact xa_cd (P := fun n => decode all pc = .ok (.newarray t, n)) h (fun hb => xa_o_newarray hb)
  all_goals exact absurd rfl h
def xa_dk (mi : Nat) (q : Nat × Instr × List Nat) (l : List UInt8) : Bool := match xa_k q.2.1 l with
  | 0 => xe_dec mi q.1 q.2.1
  | n + 1 => Nat.beq (n + 1) (xe_ln q.2.1)
theorem xa_dk_ok {mi : Nat} {q : Nat × Instr × List Nat} (h : xa_dk mi q ((xe_mB mi).data.toList.drop q.1) = true) : xe_dec mi q.1 q.2.1 = true := by
  unfold xa_dk at h
  cases hn : xa_k q.2.1 ((xe_mB mi).data.toList.drop q.1) with
  | zero => rw [hn] at h; exact h
  | succ n =>
    rw [hn] at h
    have e : n + 1 = xe_ln q.2.1 := Nat.eq_of_beq_eq_true h
    have d := xa_k_ok (all := xe_mB mi) (pc := q.1) (i := q.2.1) (by rw [hn]; omega)
    rw [hn, e] at d
    unfold xe_dec
    rw [d]
    show (decide (q.2.1 = q.2.1) && (xe_sw q.2.1 || xe_ln q.2.1 == xe_ln q.2.1)) = true
    simp
def xa_dr : Nat → List UInt8 → (List UInt8 → Bool) → Bool
  | 0, l, c => c l
  | _ + 1, [], _ => false
  | k + 1, _ :: r, c => xa_dr k r c
theorem xa_dr_ok {c : List UInt8 → Bool} : ∀ (k : Nat) (l : List UInt8), xa_dr k l c = true → c (l.drop k) = true
  | 0, _, h => h
  | _ + 1, [], h => absurd (show false = true from h) Bool.false_ne_true
  | k + 1, _ :: r, h => xa_dr_ok k r h
def xa_w (mi : Nat) : List (Nat × Instr × List Nat) → Nat → List UInt8 → Bool
  | [], _, _ => true
  | q :: t, pc, l => Nat.ble pc q.1 && xa_dr (q.1 - pc) l (fun l2 => xa_dk mi q l2 && xa_w mi t q.1 l2)
theorem xa_w_ok {mi : Nat} : ∀ (t : List (Nat × Instr × List Nat)) (pc : Nat), xa_w mi t pc ((xe_mB mi).data.toList.drop pc) = true → ∀ q, q ∈ t → xe_dec mi q.1 q.2.1 = true
  | [], _, _, q, hq => absurd hq List.not_mem_nil
  | z :: t, pc, h, q, hq => by
    have h1 : (Nat.ble pc z.1 && xa_dr (z.1 - pc) ((xe_mB mi).data.toList.drop pc) (fun l2 => xa_dk mi z l2 && xa_w mi t z.1 l2)) = true := h
    rw [Bool.and_eq_true] at h1
    have hp : pc ≤ z.1 := Nat.le_of_ble_eq_true h1.1
    have h2 : (xa_dk mi z (((xe_mB mi).data.toList.drop pc).drop (z.1 - pc)) && xa_w mi t z.1 (((xe_mB mi).data.toList.drop pc).drop (z.1 - pc))) = true := xa_dr_ok _ _ h1.2
    rw [List.drop_drop, show pc + (z.1 - pc) = z.1 by omega, Bool.and_eq_true] at h2
    rcases List.mem_cons.mp hq with e | e
    · subst e
      exact xa_dk_ok h2.1
    · exact xa_w_ok t z.1 h2.2 q e
theorem xa_ck_ok {mi p0 : Nat} {t : List (Nat × Instr × List Nat)} (h : (xa_dr p0 (xe_mB mi).data.toList (fun l => xa_w mi t p0 l) && t.all (fun q => xe_wd mi q.1 q.2.1 q.2.2)) = true) : t.all (xe_ck mi) = true := by
  rw [Bool.and_eq_true] at h
  have h1 := xa_w_ok t p0 (xa_dr_ok p0 _ h.1)
  rw [List.all_eq_true]
  intro q hq
  have h2 := List.all_eq_true.mp h.2 q hq
  show (xe_dec mi q.1 q.2.1 && xe_wd mi q.1 q.2.1 q.2.2) = true
  rw [Bool.and_eq_true]
  exact ⟨h1 q hq, h2⟩
/-! Bodies of methods held against the tables, byte by byte -/
def xa_bb : List UInt8 → List UInt8 → Bool
  | [], [] => true
  | a :: l, b :: m => Nat.beq a.toNat b.toNat && xa_bb l m
  | _, _ => false
theorem xa_bb_ok : ∀ (l m : List UInt8), xa_bb l m = true → l = m
  | [], [], _ => rfl
  | [], _ :: _, h => absurd (show false = true from h) Bool.false_ne_true
  | _ :: _, [], h => absurd (show false = true from h) Bool.false_ne_true
  | a :: l, b :: m, h => by
    have h2 : (Nat.beq a.toNat b.toNat && xa_bb l m) = true := h
    rw [Bool.and_eq_true] at h2
    rw [xa_bb_ok l m h2.2, UInt8.toNat_inj.mp (Nat.eq_of_beq_eq_true h2.1)]
theorem xa_ba : ∀ (b c : ByteArray), b.data.toList = c.data.toList → b = c
  | ⟨_⟩, ⟨_⟩, h => congrArg ByteArray.mk (Array.ext' h)
def xa_cb (k : Nat) : Option Jvm.Cond → Bool
  | some (.code y b l r) => decide (y = xe_mY k) && (xa_bb b.data.toList (xe_mB k).data.toList && (decide (l = xe_mL k) && decide (r = xe_mR k)))
  | _ => false
theorem xa_cb_ok {k : Nat} {o : Option Jvm.Cond} (h : xa_cb k o = true) : o = some (.code (xe_mY k) (xe_mB k) (xe_mL k) (xe_mR k)) := by
  cases o with
  | none => exact absurd (show false = true from h) Bool.false_ne_true
  | some w =>
    cases w with
    | code y b l r =>
      have h2 : (decide (y = xe_mY k) && (xa_bb b.data.toList (xe_mB k).data.toList && (decide (l = xe_mL k) && decide (r = xe_mR k)))) = true := h
      rw [Bool.and_eq_true, Bool.and_eq_true, Bool.and_eq_true, decide_eq_true_eq, decide_eq_true_eq, decide_eq_true_eq] at h2
      obtain ⟨h3, h4, h5, h6⟩ := h2
      rw [h3, h5, h6, xa_ba _ _ (xa_bb_ok _ _ h4)]
    | _ => exact absurd (show false = true from h) Bool.false_ne_true
