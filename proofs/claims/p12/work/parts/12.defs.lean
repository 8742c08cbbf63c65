def xe_d0 : MethodName × ByteArray × Nat × Option FieldType := (⟨"", "", ""⟩, ⟨#[]⟩, 0, none)
def xe_mY (mi : Nat) : MethodName := (xe_M.getD mi xe_d0).1
def xe_mB (mi : Nat) : ByteArray := (xe_M.getD mi xe_d0).2.1
def xe_mL (mi : Nat) : Nat := (xe_M.getD mi xe_d0).2.2.1
def xe_mR (mi : Nat) : Option FieldType := (xe_M.getD mi xe_d0).2.2.2
def xe_code (mi pc : Nat) : Option (Instr × List Nat) := ((xe_cds.getD mi []).find? (fun q => q.1 == pc)).map (fun q => q.2)
def xe_G : List Jvm.Cond := lw_tbl.filter goodWord
def xe_isN : Jvm.Cond → Bool
  | .fieldLinkNest _ _ _ _ _ _ => true
  | .methodLinkNest _ _ _ _ => true
  | _ => false
def xe_nw : List Jvm.Cond := lw_tbl.filter xe_isN
def xe_fty (ci k : Nat) : Option FieldType := (xe_ft.getD ci [])[k]?
def xe_dv (ci : Nat) : List Value := (xe_ft.getD ci []).map defaultValue
def xe_isR : Option FieldType → Bool
  | some (.object _) => true
  | some (.array _) => true
  | _ => false
/-- the law's own 'off', which catches: it is not walked by the pure machine -/
def xe_loff : Nat := 194
def xe_law : Nat := 195
