/-! the memory at the start -/
def k9_I0 : k9_I := fun k => match k with
  | 3 => fun _ p => match p with
    | 1 => 1
    | _ => 0
  | 12 => fun _ p => match p with
    | 23 => (-2)
    | _ => 0
  | 44 => fun _ => (upd (fun _ => 0) (Int32.toNatClampNeg 0) 1)
  | 60 => fun _ => (upd (upd (upd (upd (upd (upd (fun _ => 0) (Int32.toNatClampNeg 0) (-1)) (Int32.toNatClampNeg 1) (-1)) (Int32.toNatClampNeg 2) (-1)) (Int32.toNatClampNeg 3) (-1)) (Int32.toNatClampNeg 4) (-1)) (Int32.toNatClampNeg 5) (-1))
  | _ => fun _ _ => 0
def k9_J0 : k9_J := fun _ _ _ => 0
