/-! what the model's calls write -/
def hbM (s : Nat → Int32) (H : Nat) (p : Int32) : Nat → Int32
  | 0 => nI 0
  | n + 1 => if s (250 + 5 * n + 3) = -1 ∧ ¬ paM s p (s 0) H &&& bpM (s (250 + 5 * n + 0)) = nI 0 then hbM s H p n + nI 1 else hbM s H p n + nI 0
def hN12 (H : Nat) : Nat := if H < 12 then H + 1 else 12
def in1 (s : Nat → Int32) (x y : Int32) : Nat → Int32 := upd s 1 (s 1 - coM s x y)
def in2 (s : Nat → Int32) (x y : Int32) : Nat → Int32 := upd (in1 s x y) 2 x
def inS (s : Nat → Int32) (x y : Int32) : Nat → Int32 := upd (in2 s x y) 3 (in2 s x y 0 + y - nI 1)
def sc1 (s : Nat → Int32) (C : Nat) (k : Int32) : Nat → Int32 := upd s (250 + 5 * C + 0) k
def sc2 (s : Nat → Int32) (C : Nat) (k r : Int32) : Nat → Int32 := upd (sc1 s C k) (250 + 5 * C + 1) r
def sc3 (s : Nat → Int32) (C : Nat) (k r p : Int32) : Nat → Int32 := upd (sc2 s C k r) (250 + 5 * C + 2) p
def sc4 (s : Nat → Int32) (C : Nat) (k r p : Int32) : Nat → Int32 := upd (sc3 s C k r p) (250 + 5 * C + 3) (-1)
def sc5 (s : Nat → Int32) (C : Nat) (k r p : Int32) : Nat → Int32 := upd (sc4 s C k r p) (250 + 5 * C + 4) (-1)
def scS (s : Nat → Int32) (C : Nat) (k r p : Int32) : Nat → Int32 := upd (sc5 s C k r p) 4 (sc5 s C k r p 4 + nI 1)
def unM (S s : Nat → Int32) (M : Nat) : Nat → Nat → Int32
  | 0 => s
  | k + 1 => upd (unM S s M k) k (S (M * 300 + k))
