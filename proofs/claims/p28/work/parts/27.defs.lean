/-! the desk: d its object, t u its text of length m with the codes r, v0 v1 its saved states of which n are kept, a g f its state -/
abbrev dW (E : EV) (d v0 v1 t u : Nat) (n m : Int32) (r : Nat → Int32) (a : Nat → Nat) (g : Nat → Int32) (f : Nat → Nat → Int32) : va_W :=
  (d, .inr (6, [.ref (a 0), .ref v0, .ref t])) :: (t, .inr (1, [.int m, .ref u])) :: rw_ E u 60 r :: (v0, .inr (3, [.int n, .ref v1])) :: stW E a g f
def cnuC (g : Nat → Int32) (f : Nat → Nat → Int32) (n w : Int32) : Int32 :=
  if w = 0 then g 0 else if w = 1 then g 1 else if w = 2 then stpC g (g 0) else if w = 3 then (if g 0 ≤ g 3 then g 3 else -1) else if w = 4 then g 8 else if w = 5 then shoC (f 12) (g 8).toNatClampNeg else
  if w = 6 then dblC (f 11) (f 12) (f 13) (g 8).toNatClampNeg else if w = 7 then g 4 else if w = 8 then g 5 else if w = 9 then sscC g f (g 8).toNatClampNeg else n
def mpA (g : Nat → Int32) (f : Nat → Nat → Int32) (h : Int64) (p : Int32) : Nat → Int64
  | 0 => h
  | k + 1 => 31 * mpA g f h p k + (perC g f p (nI k)).toInt64
def mpB (g : Nat → Int32) (f : Nat → Nat → Int32) (h : Int64) (p : Int32) : Nat → Int64
  | 0 => h
  | k + 1 => 31 * mpB g f h p k + (cntS g f (g 0) p (nI k) 2).toInt64
def mpC (g : Nat → Int32) (f : Nat → Nat → Int32) (h : Int64) (p : Int32) : Int64 := 31 * mpB g f (mpA g f h p 7) p 6 + (stoC g f p 16 (g 8).toNatClampNeg).toInt64
def msA (g : Nat → Int32) (f : Nat → Nat → Int32) (h : Int64) (x : Int32) : Nat → Int64
  | 0 => h
  | k + 1 => 31 * msA g f h x k + (scnC g f x (nI k)).toInt64
def msB (g : Nat → Int32) (f : Nat → Nat → Int32) (h : Int64) (x : Int32) : Nat → Int64
  | 0 => h
  | k + 1 => 31 * (31 * (31 * msB g f h x k + (reaC g f (g 0) x (nI k)).toInt64) + (lacC g f x (nI k)).toInt64) + (fcdC g f x (nI k) 61 0).toInt64
def msC (g : Nat → Int32) (f : Nat → Nat → Int32) (h : Int64) (x : Int32) : Int64 := msB g f (31 * msA g f h x 6 + (bstC g f x).toInt64) x 8
def dgA (g : Nat → Int32) (f : Nat → Nat → Int32) (n : Int32) : Nat → Int64
  | 0 => 3527
  | k + 1 => 31 * dgA g f n k + (cnuC g f n (nI k)).toInt64
def dgB (g : Nat → Int32) (f : Nat → Nat → Int32) (h : Int64) : Nat → Int64
  | 0 => h
  | k + 1 => mpC g f (dgB g f h k) (nI k)
def dgD (g : Nat → Int32) (f : Nat → Nat → Int32) (h : Int64) : Nat → Int64
  | 0 => h
  | k + 1 => msC g f (dgD g f h k) (nI k)
def dgE (r : Nat → Int32) (h : Int64) : Nat → Int64
  | 0 => h
  | k + 1 => 31 * dgE r h k + (gt r 60 (nI k)).toInt64
def dgM (g : Nat → Int32) (f : Nat → Nat → Int32) (n m : Int32) : Int64 := 31 * (31 * (31 * dgD g f (dgB g f (dgA g f n 11) 8) (g 8).toNatClampNeg + (cosC g 3 10).toInt64) + bsC (shrC (f 12) (g 8))) + m.toInt64
def dgC (g : Nat → Int32) (f : Nat → Nat → Int32) (n m : Int32) (r : Nat → Int32) : Int64 := dgE r (dgM g f n m) m.toNatClampNeg
