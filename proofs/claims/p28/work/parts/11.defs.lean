/-! the class's values: rows of numbers, and what its small methods answer -/
abbrev rw_ (E : EV) (a N : Nat) (f : Nat → Int32) : Nat × va_E := (a, .inl (eK E, N, .inl f))
def gt (f : Nat → Int32) (N : Nat) (i : Int32) : Int32 := if i < 0 then 0 else if nI N ≤ i then 0 else f i.toNatClampNeg
def ptF (f : Nat → Int32) (N : Nat) (i v : Int32) : Nat → Int32 := if i < 0 then f else if nI N ≤ i then f else upd f i.toNatClampNeg v
def ndF (kind risk : Int32) : Int32 := if kind = 1 then risk + 1 else if kind = 2 then 2 * risk else if kind = 3 then risk + 2 else if kind = 4 then risk / 2 + 1 else risk
