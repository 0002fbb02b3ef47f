/-! the model: the master -/
def msN (par born live : Nat → Int32) (np : Nat) (year : Int32) : Nat → Nat → Int32 → Int32
  | 0, _, b => b
  | n + 1, i, b => if b < 0 then msN par born live np year n (i + 1) (if par i = -1 then lnN par born live np year 31 i else b) else b
