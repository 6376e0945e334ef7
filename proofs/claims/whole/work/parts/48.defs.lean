/-! what the model writes -/
def tmM (s : Nat → Int32) : Nat → Nat → Int32
  | 0 => s
  | k + 1 => upd (tmM s k) (34 + k) (nI 0)
def dbM (sn : Nat → Nat) (x p : Nat) : Int32 := if nI p = nI (sn x) then nI 0 else nI 1
def do1 (s : Nat → Int32) (x : Nat) : Nat → Int32 := upd s (250 + 5 * x + 3) (s 0)
def do2 (s : Nat → Int32) (x p : Nat) : Nat → Int32 := upd (do1 s x) (250 + 5 * x + 4) (nI p)
def do3 (s : Nat → Int32) (x p : Nat) : Nat → Int32 := upd (do2 s x p) (18 + p) (do2 s x p 0)
def do4 (s : Nat → Int32) (x p : Nat) : Nat → Int32 := upd (do3 s x p) (26 + p) (do3 s x p (26 + p) + nI 1)
def doS (s : Nat → Int32) (sn : Nat → Nat) (x p : Nat) : Nat → Int32 := upd (do4 s x p) 5 (do4 s x p 5 + dbM sn x p)
def svM (S s : Nat → Int32) (M : Nat) : Nat → Nat → Int32
  | 0 => S
  | k + 1 => upd (svM S s M k) (M * 300 + k) (s k)
def sfM (S : Nat → Int32) : Nat → Nat → Int32
  | 0 => S
  | k + 1 => upd (sfM S k) k (sfM S k (k + 300))
